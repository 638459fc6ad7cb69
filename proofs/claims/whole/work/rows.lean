section
-- ===== PART A: goes FIRST, ahead of the names: the tables' words, and 'selects' of the private methods out of them =====
/-- a private method of a class that the tables say can be made, by its rows of tables_1 -/
def lw_okq (q : MethodName × Nat) : Prop := (q.1.cls ≠ "java/lang/invoke/MethodHandle" ∧ q.1.cls ≠ "java/lang/invoke/VarHandle") ∧ Cond.instantiable q.1.cls q.2 ∈ tables_1 ∧ Cond.privateMethod q.1 ∈ tables_1 ∧ Cond.instanceMethod q.1 ∈ tables_1
theorem lw_p0 : lw_okq (⟨"Bindery", "bookAt", "(I)LBindery$Book;"⟩, 8) := ⟨⟨by decide +kernel, by decide +kernel⟩, List.mem_of_getElem? (i := 11) (by decide +kernel), List.mem_of_getElem? (i := 235) (by decide +kernel), List.mem_of_getElem? (i := 236) (by decide +kernel)⟩
theorem lw_p1 : lw_okq (⟨"Bindery$Planner", "search", "(III)V"⟩, 12) := ⟨⟨by decide +kernel, by decide +kernel⟩, List.mem_of_getElem? (i := 21) (by decide +kernel), List.mem_of_getElem? (i := 337) (by decide +kernel), List.mem_of_getElem? (i := 338) (by decide +kernel)⟩
theorem lw_p2 : lw_okq (⟨"Bindery$Planner", "work", "(II)I"⟩, 12) := ⟨⟨by decide +kernel, by decide +kernel⟩, List.mem_of_getElem? (i := 21) (by decide +kernel), List.mem_of_getElem? (i := 341) (by decide +kernel), List.mem_of_getElem? (i := 342) (by decide +kernel)⟩
theorem lw_p3 : lw_okq (⟨"Bindery$Planner", "keepTrial", "(II)V"⟩, 12) := ⟨⟨by decide +kernel, by decide +kernel⟩, List.mem_of_getElem? (i := 21) (by decide +kernel), List.mem_of_getElem? (i := 348) (by decide +kernel), List.mem_of_getElem? (i := 349) (by decide +kernel)⟩
theorem lw_p4 : lw_okq (⟨"Bindery$Spine", "weigh", "(III)V"⟩, 12) := ⟨⟨by decide +kernel, by decide +kernel⟩, List.mem_of_getElem? (i := 66) (by decide +kernel), List.mem_of_getElem? (i := 410) (by decide +kernel), List.mem_of_getElem? (i := 411) (by decide +kernel)⟩
theorem lw_p5 : lw_okq (⟨"Bindery$Spine", "layOut", "(I)V"⟩, 12) := ⟨⟨by decide +kernel, by decide +kernel⟩, List.mem_of_getElem? (i := 66) (by decide +kernel), List.mem_of_getElem? (i := 414) (by decide +kernel), List.mem_of_getElem? (i := 415) (by decide +kernel)⟩
theorem lw_p6 : lw_okq (⟨"Bindery", "skinAt", "(I)LBindery$Skin;"⟩, 8) := ⟨⟨by decide +kernel, by decide +kernel⟩, List.mem_of_getElem? (i := 11) (by decide +kernel), List.mem_of_getElem? (i := 482) (by decide +kernel), List.mem_of_getElem? (i := 483) (by decide +kernel)⟩
theorem lw_p7 : lw_okq (⟨"Bindery$Skin", "cutHere", "(IIII)Z"⟩, 6) := ⟨⟨by decide +kernel, by decide +kernel⟩, List.mem_of_getElem? (i := 452) (by decide +kernel), List.mem_of_getElem? (i := 507) (by decide +kernel), List.mem_of_getElem? (i := 508) (by decide +kernel)⟩
theorem lw_p8 : lw_okq (⟨"Bindery$Skin", "isFree", "(IIII)Z"⟩, 6) := ⟨⟨by decide +kernel, by decide +kernel⟩, List.mem_of_getElem? (i := 452) (by decide +kernel), List.mem_of_getElem? (i := 511) (by decide +kernel), List.mem_of_getElem? (i := 512) (by decide +kernel)⟩
theorem lw_p9 : lw_okq (⟨"Bindery", "takeBackAlike", "(I)V"⟩, 8) := ⟨⟨by decide +kernel, by decide +kernel⟩, List.mem_of_getElem? (i := 11) (by decide +kernel), List.mem_of_getElem? (i := 525) (by decide +kernel), List.mem_of_getElem? (i := 526) (by decide +kernel)⟩
theorem lw_p10 : lw_okq (⟨"BinderyModel", "isBook", "(I)Z"⟩, 47) := ⟨⟨by decide +kernel, by decide +kernel⟩, List.mem_of_getElem? (i := 575) (by decide +kernel), List.mem_of_getElem? (i := 732) (by decide +kernel), List.mem_of_getElem? (i := 733) (by decide +kernel)⟩
theorem lw_p11 : lw_okq (⟨"BinderyModel", "isGathering", "(II)Z"⟩, 47) := ⟨⟨by decide +kernel, by decide +kernel⟩, List.mem_of_getElem? (i := 575) (by decide +kernel), List.mem_of_getElem? (i := 743) (by decide +kernel), List.mem_of_getElem? (i := 744) (by decide +kernel)⟩
theorem lw_p12 : lw_okq (⟨"BinderyModel", "tell", "(IIII)V"⟩, 47) := ⟨⟨by decide +kernel, by decide +kernel⟩, List.mem_of_getElem? (i := 575) (by decide +kernel), List.mem_of_getElem? (i := 781) (by decide +kernel), List.mem_of_getElem? (i := 782) (by decide +kernel)⟩
theorem lw_p13 : lw_okq (⟨"BinderyModel", "findEnds", "(I)V"⟩, 47) := ⟨⟨by decide +kernel, by decide +kernel⟩, List.mem_of_getElem? (i := 575) (by decide +kernel), List.mem_of_getElem? (i := 785) (by decide +kernel), List.mem_of_getElem? (i := 786) (by decide +kernel)⟩
theorem lw_p14 : lw_okq (⟨"BinderyModel", "findWords", "()V"⟩, 47) := ⟨⟨by decide +kernel, by decide +kernel⟩, List.mem_of_getElem? (i := 575) (by decide +kernel), List.mem_of_getElem? (i := 813) (by decide +kernel), List.mem_of_getElem? (i := 814) (by decide +kernel)⟩
theorem lw_p15 : lw_okq (⟨"BinderyModel", "through", "(IIII)I"⟩, 47) := ⟨⟨by decide +kernel, by decide +kernel⟩, List.mem_of_getElem? (i := 575) (by decide +kernel), List.mem_of_getElem? (i := 817) (by decide +kernel), List.mem_of_getElem? (i := 818) (by decide +kernel)⟩
def lw_privs_1 : List (MethodName × Nat) := [(⟨"Bindery", "bookAt", "(I)LBindery$Book;"⟩, 8), (⟨"Bindery$Planner", "search", "(III)V"⟩, 12), (⟨"Bindery$Planner", "work", "(II)I"⟩, 12), (⟨"Bindery$Planner", "keepTrial", "(II)V"⟩, 12), (⟨"Bindery$Spine", "weigh", "(III)V"⟩, 12), (⟨"Bindery$Spine", "layOut", "(I)V"⟩, 12), (⟨"Bindery", "skinAt", "(I)LBindery$Skin;"⟩, 8), (⟨"Bindery$Skin", "cutHere", "(IIII)Z"⟩, 6), (⟨"Bindery$Skin", "isFree", "(IIII)Z"⟩, 6), (⟨"Bindery", "takeBackAlike", "(I)V"⟩, 8), (⟨"BinderyModel", "isBook", "(I)Z"⟩, 47), (⟨"BinderyModel", "isGathering", "(II)Z"⟩, 47), (⟨"BinderyModel", "tell", "(IIII)V"⟩, 47), (⟨"BinderyModel", "findEnds", "(I)V"⟩, 47), (⟨"BinderyModel", "findWords", "()V"⟩, 47), (⟨"BinderyModel", "through", "(IIII)I"⟩, 47)]
theorem lw_r1 : ∀ q ∈ lw_privs_1, lw_okq q := List.forall_mem_cons.mpr ⟨lw_p0, List.forall_mem_cons.mpr ⟨lw_p1, List.forall_mem_cons.mpr ⟨lw_p2, List.forall_mem_cons.mpr ⟨lw_p3, List.forall_mem_cons.mpr ⟨lw_p4, List.forall_mem_cons.mpr ⟨lw_p5, List.forall_mem_cons.mpr ⟨lw_p6, List.forall_mem_cons.mpr ⟨lw_p7, List.forall_mem_cons.mpr ⟨lw_p8, List.forall_mem_cons.mpr ⟨lw_p9, List.forall_mem_cons.mpr ⟨lw_p10, List.forall_mem_cons.mpr ⟨lw_p11, List.forall_mem_cons.mpr ⟨lw_p12, List.forall_mem_cons.mpr ⟨lw_p13, List.forall_mem_cons.mpr ⟨lw_p14, List.forall_mem_cons.mpr ⟨lw_p15, fun _ h => absurd h List.not_mem_nil⟩⟩⟩⟩⟩⟩⟩⟩⟩⟩⟩⟩⟩⟩⟩⟩
theorem lw_p16 : lw_okq (⟨"BinderyModel", "wideOf", "(II)I"⟩, 47) := ⟨⟨by decide +kernel, by decide +kernel⟩, List.mem_of_getElem? (i := 575) (by decide +kernel), List.mem_of_getElem? (i := 821) (by decide +kernel), List.mem_of_getElem? (i := 822) (by decide +kernel)⟩
theorem lw_p17 : lw_okq (⟨"BinderyModel", "often", "(I)I"⟩, 47) := ⟨⟨by decide +kernel, by decide +kernel⟩, List.mem_of_getElem? (i := 575) (by decide +kernel), List.mem_of_getElem? (i := 833) (by decide +kernel), List.mem_of_getElem? (i := 834) (by decide +kernel)⟩
theorem lw_p18 : lw_okq (⟨"BinderyModel", "isSkin", "(I)Z"⟩, 47) := ⟨⟨by decide +kernel, by decide +kernel⟩, List.mem_of_getElem? (i := 575) (by decide +kernel), List.mem_of_getElem? (i := 853) (by decide +kernel), List.mem_of_getElem? (i := 854) (by decide +kernel)⟩
theorem lw_p19 : lw_okq (⟨"BinderyModel", "isSpot", "(III)Z"⟩, 47) := ⟨⟨by decide +kernel, by decide +kernel⟩, List.mem_of_getElem? (i := 575) (by decide +kernel), List.mem_of_getElem? (i := 857) (by decide +kernel), List.mem_of_getElem? (i := 858) (by decide +kernel)⟩
theorem lw_p20 : lw_okq (⟨"BinderyModel", "cutOf", "(III)I"⟩, 47) := ⟨⟨by decide +kernel, by decide +kernel⟩, List.mem_of_getElem? (i := 575) (by decide +kernel), List.mem_of_getElem? (i := 865) (by decide +kernel), List.mem_of_getElem? (i := 866) (by decide +kernel)⟩
theorem lw_p21 : lw_okq (⟨"BinderyModel", "fits", "(IIIII)Z"⟩, 47) := ⟨⟨by decide +kernel, by decide +kernel⟩, List.mem_of_getElem? (i := 575) (by decide +kernel), List.mem_of_getElem? (i := 869) (by decide +kernel), List.mem_of_getElem? (i := 870) (by decide +kernel)⟩
theorem lw_p22 : lw_okq (⟨"BinderyModel", "take", "(IIIIIZ)I"⟩, 47) := ⟨⟨by decide +kernel, by decide +kernel⟩, List.mem_of_getElem? (i := 575) (by decide +kernel), List.mem_of_getElem? (i := 873) (by decide +kernel), List.mem_of_getElem? (i := 874) (by decide +kernel)⟩
theorem lw_p23 : lw_okq (⟨"BinderyModel", "rateOf", "(III)I"⟩, 47) := ⟨⟨by decide +kernel, by decide +kernel⟩, List.mem_of_getElem? (i := 575) (by decide +kernel), List.mem_of_getElem? (i := 900) (by decide +kernel), List.mem_of_getElem? (i := 901) (by decide +kernel)⟩
def lw_privs_2 : List (MethodName × Nat) := [(⟨"BinderyModel", "wideOf", "(II)I"⟩, 47), (⟨"BinderyModel", "often", "(I)I"⟩, 47), (⟨"BinderyModel", "isSkin", "(I)Z"⟩, 47), (⟨"BinderyModel", "isSpot", "(III)Z"⟩, 47), (⟨"BinderyModel", "cutOf", "(III)I"⟩, 47), (⟨"BinderyModel", "fits", "(IIIII)Z"⟩, 47), (⟨"BinderyModel", "take", "(IIIIIZ)I"⟩, 47), (⟨"BinderyModel", "rateOf", "(III)I"⟩, 47)]
theorem lw_r2 : ∀ q ∈ lw_privs_2, lw_okq q := List.forall_mem_cons.mpr ⟨lw_p16, List.forall_mem_cons.mpr ⟨lw_p17, List.forall_mem_cons.mpr ⟨lw_p18, List.forall_mem_cons.mpr ⟨lw_p19, List.forall_mem_cons.mpr ⟨lw_p20, List.forall_mem_cons.mpr ⟨lw_p21, List.forall_mem_cons.mpr ⟨lw_p22, List.forall_mem_cons.mpr ⟨lw_p23, fun _ h => absurd h List.not_mem_nil⟩⟩⟩⟩⟩⟩⟩⟩
def lw_privs : List (MethodName × Nat) := lw_privs_1 ++ (lw_privs_2)
def lw_tbl : List Cond := k2_sels lw_privs ++ tables_1
theorem lw_privs_ok : ∀ q ∈ lw_privs, lw_okq q := by
  show ∀ q ∈ lw_privs_1 ++ (lw_privs_2), lw_okq q
  exact List.forall_mem_append.mpr ⟨lw_r1, lw_r2⟩
def RX0 : String := "Bindery$Book"
def TX0 : u_T := fun k => match k with
  | 0 => ("Bindery$Book", "leaves", "[I", true)
  | 1 => ("Bindery$Book", "believed", "[I", true)
  | 2 => ("Bindery$Book", "lostAt", "[I", true)
  | 3 => ("Bindery$Book", "foundAt", "[I", true)
  | 4 => ("Bindery$Book", "needs", "[I", true)
  | 5 => ("Bindery$Book", "gatherings", "I", false)
  | 6 => ("Bindery$Book", "at", "I", false)
  | 7 => ("Bindery$Book", "lookedAt", "I", false)
  | 8 => ("Bindery$Book", "drying", "I", false)
  | 9 => ("Bindery$Book", "promisedFor", "I", false)
  | _ => ("Bindery$Book", "price", "I", false)
def tyX0 : Nat → FieldType := fun k => match k with
  | 0 => .array .int
  | 1 => .array .int
  | 2 => .array .int
  | 3 => .array .int
  | 4 => .array .int
  | 5 => .int
  | 6 => .int
  | 7 => .int
  | 8 => .int
  | 9 => .int
  | _ => .int
abbrev wsX00 : List Cond := u_ws RX0 TX0 11
theorem nmX0 : ∀ a, a < 11 → ∀ b, b < 11 → a ≠ b → (TX0 a).2.1 ≠ (TX0 b).2.1 := by decide +kernel
theorem tyX0_ok : ∀ k, k < 11 → parseFieldDescriptor (TX0 k).2.2.1 = some (tyX0 k) := by decide +kernel
abbrev cX0_init : ByteArray := prog_2_method_1_code
def yX0_init : MethodName := ⟨RX0, "<init>", "()V"⟩
abbrev cX0_addGathering : ByteArray := prog_2_method_2_code
def yX0_addGathering : MethodName := ⟨RX0, "addGathering", "(I)I"⟩
abbrev cX0_hasGathering : ByteArray := prog_2_method_3_code
def yX0_hasGathering : MethodName := ⟨RX0, "hasGathering", "(I)Z"⟩
abbrev cX0_hasLeaves : ByteArray := prog_2_method_4_code
def yX0_hasLeaves : MethodName := ⟨RX0, "hasLeaves", "(II)Z"⟩
abbrev cX0_inspect : ByteArray := prog_2_method_5_code
def yX0_inspect : MethodName := ⟨RX0, "inspect", "(II)I"⟩
abbrev cX0_mayMoveOn : ByteArray := prog_2_method_6_code
def yX0_mayMoveOn : MethodName := ⟨RX0, "mayMoveOn", "()Z"⟩
abbrev cX0_moveOn : ByteArray := prog_2_method_7_code
def yX0_moveOn : MethodName := ⟨RX0, "moveOn", "()I"⟩
abbrev cX0_leavesBelieved : ByteArray := prog_2_method_8_code
def yX0_leavesBelieved : MethodName := ⟨RX0, "leavesBelieved", "()I"⟩
abbrev cX0_leavesInAll : ByteArray := prog_2_method_9_code
def yX0_leavesInAll : MethodName := ⟨RX0, "leavesInAll", "()I"⟩
abbrev cX0_allOf : ByteArray := prog_2_method_10_code
def yX0_allOf : MethodName := ⟨RX0, "allOf", "(I)I"⟩
def RX1 : String := "Bindery$Ledger"
def TX1 : u_T := fun k => match k with
  | 0 => ("Bindery$Ledger", "rates", "I", false)
  | 1 => ("Bindery$Ledger", "passes", "I", false)
  | 2 => ("Bindery$Ledger", "rateBench", "[I", true)
  | 3 => ("Bindery$Ledger", "rateFrom", "[I", true)
  | 4 => ("Bindery$Ledger", "ratePence", "[I", true)
  | 5 => ("Bindery$Ledger", "rateTold", "[I", true)
  | 6 => ("Bindery$Ledger", "passBench", "[I", true)
  | _ => ("Bindery$Ledger", "passDay", "[I", true)
def tyX1 : Nat → FieldType := fun k => match k with
  | 0 => .int
  | 1 => .int
  | 2 => .array .int
  | 3 => .array .int
  | 4 => .array .int
  | 5 => .array .int
  | 6 => .array .int
  | _ => .array .int
abbrev wsX10 : List Cond := u_ws RX1 TX1 8
theorem nmX1 : ∀ a, a < 8 → ∀ b, b < 8 → a ≠ b → (TX1 a).2.1 ≠ (TX1 b).2.1 := by decide +kernel
theorem tyX1_ok : ∀ k, k < 8 → parseFieldDescriptor (TX1 k).2.2.1 = some (tyX1 k) := by decide +kernel
abbrev cX1_init : ByteArray := prog_3_method_1_code
def yX1_init : MethodName := ⟨RX1, "<init>", "()V"⟩
abbrev cX1_noteRate : ByteArray := prog_3_method_2_code
def yX1_noteRate : MethodName := ⟨RX1, "noteRate", "(IIII)I"⟩
abbrev cX1_notePass : ByteArray := prog_3_method_3_code
def yX1_notePass : MethodName := ⟨RX1, "notePass", "(II)V"⟩
abbrev cX1_penceAt : ByteArray := prog_3_method_4_code
def yX1_penceAt : MethodName := ⟨RX1, "penceAt", "(III)I"⟩
abbrev cX1_earned : ByteArray := prog_3_method_5_code
def yX1_earned : MethodName := ⟨RX1, "earned", "(III)I"⟩
def RX2 : String := "Bindery$Planner"
def TX2 : u_T := fun k => match k with
  | 0 => ("Bindery$Planner", "ends", "[I", true)
  | 1 => ("Bindery$Planner", "numbers", "[I", true)
  | 2 => ("Bindery$Planner", "needs", "[I", true)
  | 3 => ("Bindery$Planner", "drying", "[I", true)
  | 4 => ("Bindery$Planner", "promisedFor", "[I", true)
  | 5 => ("Bindery$Planner", "prices", "[I", true)
  | 6 => ("Bindery$Planner", "trial", "[I", true)
  | 7 => ("Bindery$Planner", "best", "[I", true)
  | 8 => ("Bindery$Planner", "clocks", "[I", true)
  | 9 => ("Bindery$Planner", "members", "I", false)
  | 10 => ("Bindery$Planner", "leastCost", "I", false)
  | _ => ("Bindery$Planner", "leastEnd", "I", false)
def tyX2 : Nat → FieldType := fun k => match k with
  | 0 => .array .int
  | 1 => .array .int
  | 2 => .array .int
  | 3 => .array .int
  | 4 => .array .int
  | 5 => .array .int
  | 6 => .array .int
  | 7 => .array .int
  | 8 => .array .int
  | 9 => .int
  | 10 => .int
  | _ => .int
abbrev wsX20 : List Cond := u_ws RX2 TX2 12
theorem nmX2 : ∀ a, a < 12 → ∀ b, b < 12 → a ≠ b → (TX2 a).2.1 ≠ (TX2 b).2.1 := by decide +kernel
theorem tyX2_ok : ∀ k, k < 12 → parseFieldDescriptor (TX2 k).2.2.1 = some (tyX2 k) := by decide +kernel
abbrev cX2_init : ByteArray := prog_4_method_1_code
def yX2_init : MethodName := ⟨RX2, "<init>", "()V"⟩
abbrev cX2_clear : ByteArray := prog_4_method_2_code
def yX2_clear : MethodName := ⟨RX2, "clear", "()V"⟩
abbrev cX2_enlist : ByteArray := prog_4_method_3_code
def yX2_enlist : MethodName := ⟨RX2, "enlist", "(ILBindery$Book;)V"⟩
abbrev cX2_arrange : ByteArray := prog_4_method_4_code
def yX2_arrange : MethodName := ⟨RX2, "arrange", "()I"⟩
abbrev cX2_hasPlace : ByteArray := prog_4_method_5_code
def yX2_hasPlace : MethodName := ⟨RX2, "hasPlace", "(I)Z"⟩
abbrev cX2_numberAt : ByteArray := prog_4_method_6_code
def yX2_numberAt : MethodName := ⟨RX2, "numberAt", "(I)I"⟩
abbrev cX2_placeOf : ByteArray := prog_4_method_7_code
def yX2_placeOf : MethodName := ⟨RX2, "placeOf", "(I)I"⟩
abbrev cX2_delayedBy : ByteArray := prog_4_method_8_code
def yX2_delayedBy : MethodName := ⟨RX2, "delayedBy", "(I)I"⟩
abbrev cX2_search : ByteArray := prog_4_method_9_code
def yX2_search : MethodName := ⟨RX2, "search", "(III)V"⟩
abbrev cX2_keepTrial : ByteArray := prog_4_method_10_code
def yX2_keepTrial : MethodName := ⟨RX2, "keepTrial", "(II)V"⟩
abbrev cX2_work : ByteArray := prog_4_method_11_code
def yX2_work : MethodName := ⟨RX2, "work", "(II)I"⟩
def RX3 : String := "Bindery$Skin"
def TX3 : u_T := fun k => match k with
  | 0 => ("Bindery$Skin", "tone", "I", true)
  | 1 => ("Bindery$Skin", "wide", "I", true)
  | 2 => ("Bindery$Skin", "high", "I", true)
  | 3 => ("Bindery$Skin", "places", "[I", true)
  | 4 => ("Bindery$Skin", "coversCut", "I", false)
  | _ => ("Bindery$Skin", "coversAhead", "I", false)
def tyX3 : Nat → FieldType := fun k => match k with
  | 0 => .int
  | 1 => .int
  | 2 => .int
  | 3 => .array .int
  | 4 => .int
  | _ => .int
abbrev wsX30 : List Cond := u_ws RX3 TX3 6
theorem nmX3 : ∀ a, a < 6 → ∀ b, b < 6 → a ≠ b → (TX3 a).2.1 ≠ (TX3 b).2.1 := by decide +kernel
theorem tyX3_ok : ∀ k, k < 6 → parseFieldDescriptor (TX3 k).2.2.1 = some (tyX3 k) := by decide +kernel
abbrev cX3_init : ByteArray := prog_5_method_1_code
def yX3_init : MethodName := ⟨RX3, "<init>", "(III)V"⟩
abbrev cX3_hasPlace : ByteArray := prog_5_method_2_code
def yX3_hasPlace : MethodName := ⟨RX3, "hasPlace", "(II)Z"⟩
abbrev cX3_stateOf : ByteArray := prog_5_method_3_code
def yX3_stateOf : MethodName := ⟨RX3, "stateOf", "(II)I"⟩
abbrev cX3_fill : ByteArray := prog_5_method_4_code
def yX3_fill : MethodName := ⟨RX3, "fill", "(IIIII)V"⟩
abbrev cX3_cutCover : ByteArray := prog_5_method_5_code
def yX3_cutCover : MethodName := ⟨RX3, "cutCover", "(II)I"⟩
abbrev cX3_cutAlike : ByteArray := prog_5_method_6_code
def yX3_cutAlike : MethodName := ⟨RX3, "cutAlike", "(III)I"⟩
abbrev cX3_takeBackAlike : ByteArray := prog_5_method_7_code
def yX3_takeBackAlike : MethodName := ⟨RX3, "takeBackAlike", "()V"⟩
abbrev cX3_cutHere : ByteArray := prog_5_method_8_code
def yX3_cutHere : MethodName := ⟨RX3, "cutHere", "(IIII)Z"⟩
abbrev cX3_isFree : ByteArray := prog_5_method_9_code
def yX3_isFree : MethodName := ⟨RX3, "isFree", "(IIII)Z"⟩
def RX4 : String := "Bindery$Spine"
def TX4 : u_T := fun k => match k with
  | 0 => ("Bindery$Spine", "widths", "[I", true)
  | 1 => ("Bindery$Spine", "stamped", "[I", true)
  | 2 => ("Bindery$Spine", "lineWords", "[I", true)
  | 3 => ("Bindery$Spine", "length", "I", false)
  | 4 => ("Bindery$Spine", "lines", "I", false)
  | 5 => ("Bindery$Spine", "lasting", "I", false)
  | 6 => ("Bindery$Spine", "signs", "[I", true)
  | 7 => ("Bindery$Spine", "wanted", "[I", true)
  | 8 => ("Bindery$Spine", "wordWidths", "[I", true)
  | 9 => ("Bindery$Spine", "costs", "[I", true)
  | 10 => ("Bindery$Spine", "firstWords", "[I", true)
  | _ => ("Bindery$Spine", "words", "I", false)
def tyX4 : Nat → FieldType := fun k => match k with
  | 0 => .array .int
  | 1 => .array .int
  | 2 => .array .int
  | 3 => .int
  | 4 => .int
  | 5 => .int
  | 6 => .array .int
  | 7 => .array .int
  | 8 => .array .int
  | 9 => .array .int
  | 10 => .array .int
  | _ => .int
abbrev wsX40 : List Cond := u_ws RX4 TX4 12
theorem nmX4 : ∀ a, a < 12 → ∀ b, b < 12 → a ≠ b → (TX4 a).2.1 ≠ (TX4 b).2.1 := by decide +kernel
theorem tyX4_ok : ∀ k, k < 12 → parseFieldDescriptor (TX4 k).2.2.1 = some (tyX4 k) := by decide +kernel
abbrev cX4_init : ByteArray := prog_6_method_1_code
def yX4_init : MethodName := ⟨RX4, "<init>", "()V"⟩
abbrev cX4_addSign : ByteArray := prog_6_method_2_code
def yX4_addSign : MethodName := ⟨RX4, "addSign", "(I)I"⟩
abbrev cX4_readWords : ByteArray := prog_6_method_3_code
def yX4_readWords : MethodName := ⟨RX4, "readWords", "()I"⟩
abbrev cX4_breakUp : ByteArray := prog_6_method_4_code
def yX4_breakUp : MethodName := ⟨RX4, "breakUp", "(II)I"⟩
abbrev cX4_weigh : ByteArray := prog_6_method_5_code
def yX4_weigh : MethodName := ⟨RX4, "weigh", "(III)V"⟩
abbrev cX4_layOut : ByteArray := prog_6_method_6_code
def yX4_layOut : MethodName := ⟨RX4, "layOut", "(I)V"⟩
abbrev cX4_countLetters : ByteArray := prog_6_method_7_code
def yX4_countLetters : MethodName := ⟨RX4, "countLetters", "()I"⟩
abbrev cX4_wouldBlunt : ByteArray := prog_6_method_8_code
def yX4_wouldBlunt : MethodName := ⟨RX4, "wouldBlunt", "()Z"⟩
abbrev cX4_stampAll : ByteArray := prog_6_method_9_code
def yX4_stampAll : MethodName := ⟨RX4, "stampAll", "()V"⟩
def RX5 : String := "Bindery"
def TX5 : u_T := fun k => match k with
  | 0 => ("Bindery", "shelf", "[LBindery$Book;", true)
  | 1 => ("Bindery", "planner", "LBindery$Planner;", true)
  | 2 => ("Bindery", "spine", "LBindery$Spine;", true)
  | 3 => ("Bindery", "hides", "[LBindery$Skin;", true)
  | 4 => ("Bindery", "ledger", "LBindery$Ledger;", true)
  | 5 => ("Bindery", "bookCount", "I", false)
  | 6 => ("Bindery", "skinCount", "I", false)
  | _ => ("Bindery", "today", "I", false)
def tyX5 : Nat → FieldType := fun k => match k with
  | 0 => .array (.object "Bindery$Book")
  | 1 => .object "Bindery$Planner"
  | 2 => .object "Bindery$Spine"
  | 3 => .array (.object "Bindery$Skin")
  | 4 => .object "Bindery$Ledger"
  | 5 => .int
  | 6 => .int
  | _ => .int
abbrev wsX50 : List Cond := u_ws RX5 TX5 8
theorem nmX5 : ∀ a, a < 8 → ∀ b, b < 8 → a ≠ b → (TX5 a).2.1 ≠ (TX5 b).2.1 := by decide +kernel
theorem tyX5_ok : ∀ k, k < 8 → parseFieldDescriptor (TX5 k).2.2.1 = some (tyX5 k) := by decide +kernel
abbrev cX5_init : ByteArray := prog_1_method_1_code
def yX5_init : MethodName := ⟨RX5, "<init>", "()V"⟩
abbrev cX5_book : ByteArray := prog_1_method_2_code
def yX5_book : MethodName := ⟨RX5, "book", "()I"⟩
abbrev cX5_gather : ByteArray := prog_1_method_3_code
def yX5_gather : MethodName := ⟨RX5, "gather", "(II)I"⟩
abbrev cX5_look : ByteArray := prog_1_method_4_code
def yX5_look : MethodName := ⟨RX5, "look", "(III)I"⟩
abbrev cX5_pass : ByteArray := prog_1_method_5_code
def yX5_pass : MethodName := ⟨RX5, "pass", "(I)I"⟩
abbrev cX5_told : ByteArray := prog_1_method_6_code
def yX5_told : MethodName := ⟨RX5, "told", "(II)I"⟩
abbrev cX5_there : ByteArray := prog_1_method_7_code
def yX5_there : MethodName := ⟨RX5, "there", "(II)I"⟩
abbrev cX5_gone : ByteArray := prog_1_method_8_code
def yX5_gone : MethodName := ⟨RX5, "gone", "(III)I"⟩
abbrev cX5_hours : ByteArray := prog_1_method_9_code
def yX5_hours : MethodName := ⟨RX5, "hours", "(III)I"⟩
abbrev cX5_promise : ByteArray := prog_1_method_10_code
def yX5_promise : MethodName := ⟨RX5, "promise", "(IIII)I"⟩
abbrev cX5_plan : ByteArray := prog_1_method_11_code
def yX5_plan : MethodName := ⟨RX5, "plan", "(I)I"⟩
abbrev cX5_planned : ByteArray := prog_1_method_12_code
def yX5_planned : MethodName := ⟨RX5, "planned", "(II)I"⟩
abbrev cX5_delays : ByteArray := prog_1_method_13_code
def yX5_delays : MethodName := ⟨RX5, "delays", "(I)I"⟩
abbrev cX5_width : ByteArray := prog_1_method_14_code
def yX5_width : MethodName := ⟨RX5, "width", "(II)I"⟩
abbrev cX5_sign : ByteArray := prog_1_method_15_code
def yX5_sign : MethodName := ⟨RX5, "sign", "(I)I"⟩
abbrev cX5_wipe : ByteArray := prog_1_method_16_code
def yX5_wipe : MethodName := ⟨RX5, "wipe", "()I"⟩
abbrev cX5_broken : ByteArray := prog_1_method_17_code
def yX5_broken : MethodName := ⟨RX5, "broken", "(II)I"⟩
abbrev cX5_line : ByteArray := prog_1_method_18_code
def yX5_line : MethodName := ⟨RX5, "line", "(I)I"⟩
abbrev cX5_stamp : ByteArray := prog_1_method_19_code
def yX5_stamp : MethodName := ⟨RX5, "stamp", "()I"⟩
abbrev cX5_sharpen : ByteArray := prog_1_method_20_code
def yX5_sharpen : MethodName := ⟨RX5, "sharpen", "(I)I"⟩
abbrev cX5_last : ByteArray := prog_1_method_21_code
def yX5_last : MethodName := ⟨RX5, "last", "(I)I"⟩
abbrev cX5_skin : ByteArray := prog_1_method_22_code
def yX5_skin : MethodName := ⟨RX5, "skin", "(III)I"⟩
abbrev cX5_flaw : ByteArray := prog_1_method_23_code
def yX5_flaw : MethodName := ⟨RX5, "flaw", "(III)I"⟩
abbrev cX5_cut : ByteArray := prog_1_method_24_code
def yX5_cut : MethodName := ⟨RX5, "cut", "(III)I"⟩
abbrev cX5_covers : ByteArray := prog_1_method_25_code
def yX5_covers : MethodName := ⟨RX5, "covers", "(IIII)I"⟩
abbrev cX5_spot : ByteArray := prog_1_method_26_code
def yX5_spot : MethodName := ⟨RX5, "spot", "(III)I"⟩
abbrev cX5_days : ByteArray := prog_1_method_27_code
def yX5_days : MethodName := ⟨RX5, "days", "(I)I"⟩
abbrev cX5_rate : ByteArray := prog_1_method_28_code
def yX5_rate : MethodName := ⟨RX5, "rate", "(III)I"⟩
abbrev cX5_rateAt : ByteArray := prog_1_method_29_code
def yX5_rateAt : MethodName := ⟨RX5, "rateAt", "(III)I"⟩
abbrev cX5_wages : ByteArray := prog_1_method_30_code
def yX5_wages : MethodName := ⟨RX5, "wages", "(III)I"⟩
abbrev cX5_count : ByteArray := prog_1_method_31_code
def yX5_count : MethodName := ⟨RX5, "count", "(I)I"⟩
abbrev cX5_within : ByteArray := prog_1_method_32_code
def yX5_within : MethodName := ⟨RX5, "within", "(III)Z"⟩
abbrev cX5_isBench : ByteArray := prog_1_method_33_code
def yX5_isBench : MethodName := ⟨RX5, "isBench", "(I)Z"⟩
abbrev cX5_isSign : ByteArray := prog_1_method_34_code
def yX5_isSign : MethodName := ⟨RX5, "isSign", "(I)Z"⟩
abbrev cX5_isSize : ByteArray := prog_1_method_35_code
def yX5_isSize : MethodName := ⟨RX5, "isSize", "(II)Z"⟩
abbrev cX5_isDay : ByteArray := prog_1_method_36_code
def yX5_isDay : MethodName := ⟨RX5, "isDay", "(I)Z"⟩
abbrev cX5_bookAt : ByteArray := prog_1_method_37_code
def yX5_bookAt : MethodName := ⟨RX5, "bookAt", "(I)LBindery$Book;"⟩
abbrev cX5_skinAt : ByteArray := prog_1_method_38_code
def yX5_skinAt : MethodName := ⟨RX5, "skinAt", "(I)LBindery$Skin;"⟩
abbrev cX5_takeBackAlike : ByteArray := prog_1_method_39_code
def yX5_takeBackAlike : MethodName := ⟨RX5, "takeBackAlike", "(I)V"⟩
def RX6 : String := "BinderyModel"
def TX6 : u_T := fun k => match k with
  | 0 => ("BinderyModel", "day", "I", false)
  | 1 => ("BinderyModel", "books", "I", false)
  | 2 => ("BinderyModel", "bench", "[I", true)
  | 3 => ("BinderyModel", "gatherings", "[I", true)
  | 4 => ("BinderyModel", "leaves", "[I", true)
  | 5 => ("BinderyModel", "there", "[I", true)
  | 6 => ("BinderyModel", "isLooked", "[Z", true)
  | 7 => ("BinderyModel", "lost", "[I", true)
  | 8 => ("BinderyModel", "found", "[I", true)
  | 9 => ("BinderyModel", "hours", "[I", true)
  | 10 => ("BinderyModel", "dries", "[I", true)
  | 11 => ("BinderyModel", "promised", "[I", true)
  | 12 => ("BinderyModel", "price", "[I", true)
  | 13 => ("BinderyModel", "passes", "I", false)
  | 14 => ("BinderyModel", "passBench", "[I", true)
  | 15 => ("BinderyModel", "passDay", "[I", true)
  | 16 => ("BinderyModel", "planSize", "I", false)
  | 17 => ("BinderyModel", "plan", "[I", true)
  | 18 => ("BinderyModel", "planEnd", "[I", true)
  | 19 => ("BinderyModel", "planHours", "[I", true)
  | 20 => ("BinderyModel", "planDries", "[I", true)
  | 21 => ("BinderyModel", "row", "[I", true)
  | 22 => ("BinderyModel", "end", "[I", true)
  | 23 => ("BinderyModel", "free", "[I", true)
  | 24 => ("BinderyModel", "width", "[I", true)
  | 25 => ("BinderyModel", "signs", "I", false)
  | 26 => ("BinderyModel", "text", "[I", true)
  | 27 => ("BinderyModel", "words", "I", false)
  | 28 => ("BinderyModel", "wordWide", "[I", true)
  | 29 => ("BinderyModel", "costs", "[I", true)
  | 30 => ("BinderyModel", "lines", "I", false)
  | 31 => ("BinderyModel", "line", "[I", true)
  | 32 => ("BinderyModel", "stamped", "[I", true)
  | 33 => ("BinderyModel", "last", "I", false)
  | 34 => ("BinderyModel", "skins", "I", false)
  | 35 => ("BinderyModel", "wide", "[I", true)
  | 36 => ("BinderyModel", "high", "[I", true)
  | 37 => ("BinderyModel", "tone", "[I", true)
  | 38 => ("BinderyModel", "spots", "[I", true)
  | 39 => ("BinderyModel", "covers", "[I", true)
  | 40 => ("BinderyModel", "kept", "[I", true)
  | 41 => ("BinderyModel", "keptCovers", "[I", true)
  | 42 => ("BinderyModel", "rates", "I", false)
  | 43 => ("BinderyModel", "rateBench", "[I", true)
  | 44 => ("BinderyModel", "rateFrom", "[I", true)
  | 45 => ("BinderyModel", "ratePence", "[I", true)
  | _ => ("BinderyModel", "rateTold", "[I", true)
def tyX6 : Nat → FieldType := fun k => match k with
  | 0 => .int
  | 1 => .int
  | 2 => .array .int
  | 3 => .array .int
  | 4 => .array .int
  | 5 => .array .int
  | 6 => .array .boolean
  | 7 => .array .int
  | 8 => .array .int
  | 9 => .array .int
  | 10 => .array .int
  | 11 => .array .int
  | 12 => .array .int
  | 13 => .int
  | 14 => .array .int
  | 15 => .array .int
  | 16 => .int
  | 17 => .array .int
  | 18 => .array .int
  | 19 => .array .int
  | 20 => .array .int
  | 21 => .array .int
  | 22 => .array .int
  | 23 => .array .int
  | 24 => .array .int
  | 25 => .int
  | 26 => .array .int
  | 27 => .int
  | 28 => .array .int
  | 29 => .array .int
  | 30 => .int
  | 31 => .array .int
  | 32 => .array .int
  | 33 => .int
  | 34 => .int
  | 35 => .array .int
  | 36 => .array .int
  | 37 => .array .int
  | 38 => .array .int
  | 39 => .array .int
  | 40 => .array .int
  | 41 => .array .int
  | 42 => .int
  | 43 => .array .int
  | 44 => .array .int
  | 45 => .array .int
  | _ => .array .int
abbrev wsX60 : List Cond := u_ws RX6 TX6 47
theorem nmX6 : ∀ a, a < 47 → ∀ b, b < 47 → a ≠ b → (TX6 a).2.1 ≠ (TX6 b).2.1 := by decide +kernel
theorem tyX6_ok : ∀ k, k < 47 → parseFieldDescriptor (TX6 k).2.2.1 = some (tyX6 k) := by decide +kernel
abbrev cX6_init : ByteArray := prog_8_method_1_code
def yX6_init : MethodName := ⟨RX6, "<init>", "()V"⟩
abbrev cX6_in : ByteArray := prog_8_method_2_code
def yX6_in : MethodName := ⟨RX6, "in", "(III)Z"⟩
abbrev cX6_isBook : ByteArray := prog_8_method_3_code
def yX6_isBook : MethodName := ⟨RX6, "isBook", "(I)Z"⟩
abbrev cX6_isBench : ByteArray := prog_8_method_4_code
def yX6_isBench : MethodName := ⟨RX6, "isBench", "(I)Z"⟩
abbrev cX6_isGathering : ByteArray := prog_8_method_5_code
def yX6_isGathering : MethodName := ⟨RX6, "isGathering", "(II)Z"⟩
abbrev cX6_many : ByteArray := prog_8_method_6_code
def yX6_many : MethodName := ⟨RX6, "many", "(I)I"⟩
abbrev cX6_book : ByteArray := prog_8_method_7_code
def yX6_book : MethodName := ⟨RX6, "book", "()I"⟩
abbrev cX6_gather : ByteArray := prog_8_method_8_code
def yX6_gather : MethodName := ⟨RX6, "gather", "(II)I"⟩
abbrev cX6_look : ByteArray := prog_8_method_9_code
def yX6_look : MethodName := ⟨RX6, "look", "(III)I"⟩
abbrev cX6_pass : ByteArray := prog_8_method_10_code
def yX6_pass : MethodName := ⟨RX6, "pass", "(I)I"⟩
abbrev cX6_told : ByteArray := prog_8_method_11_code
def yX6_told : MethodName := ⟨RX6, "told", "(II)I"⟩
abbrev cX6_there : ByteArray := prog_8_method_12_code
def yX6_there : MethodName := ⟨RX6, "there", "(II)I"⟩
abbrev cX6_gone : ByteArray := prog_8_method_13_code
def yX6_gone : MethodName := ⟨RX6, "gone", "(III)I"⟩
abbrev cX6_hours : ByteArray := prog_8_method_14_code
def yX6_hours : MethodName := ⟨RX6, "hours", "(III)I"⟩
abbrev cX6_promise : ByteArray := prog_8_method_15_code
def yX6_promise : MethodName := ⟨RX6, "promise", "(IIII)I"⟩
abbrev cX6_findEnds : ByteArray := prog_8_method_16_code
def yX6_findEnds : MethodName := ⟨RX6, "findEnds", "(I)V"⟩
abbrev cX6_plan : ByteArray := prog_8_method_17_code
def yX6_plan : MethodName := ⟨RX6, "plan", "(I)I"⟩
abbrev cX6_tell : ByteArray := prog_8_method_18_code
def yX6_tell : MethodName := ⟨RX6, "tell", "(IIII)V"⟩
abbrev cX6_planned : ByteArray := prog_8_method_19_code
def yX6_planned : MethodName := ⟨RX6, "planned", "(II)I"⟩
abbrev cX6_delays : ByteArray := prog_8_method_20_code
def yX6_delays : MethodName := ⟨RX6, "delays", "(I)I"⟩
abbrev cX6_width : ByteArray := prog_8_method_21_code
def yX6_width : MethodName := ⟨RX6, "width", "(II)I"⟩
abbrev cX6_sign : ByteArray := prog_8_method_22_code
def yX6_sign : MethodName := ⟨RX6, "sign", "(I)I"⟩
abbrev cX6_wipe : ByteArray := prog_8_method_23_code
def yX6_wipe : MethodName := ⟨RX6, "wipe", "()I"⟩
abbrev cX6_findWords : ByteArray := prog_8_method_24_code
def yX6_findWords : MethodName := ⟨RX6, "findWords", "()V"⟩
abbrev cX6_wideOf : ByteArray := prog_8_method_25_code
def yX6_wideOf : MethodName := ⟨RX6, "wideOf", "(II)I"⟩
abbrev cX6_through : ByteArray := prog_8_method_26_code
def yX6_through : MethodName := ⟨RX6, "through", "(IIII)I"⟩
abbrev cX6_broken : ByteArray := prog_8_method_27_code
def yX6_broken : MethodName := ⟨RX6, "broken", "(II)I"⟩
abbrev cX6_line : ByteArray := prog_8_method_28_code
def yX6_line : MethodName := ⟨RX6, "line", "(I)I"⟩
abbrev cX6_often : ByteArray := prog_8_method_29_code
def yX6_often : MethodName := ⟨RX6, "often", "(I)I"⟩
abbrev cX6_stamp : ByteArray := prog_8_method_30_code
def yX6_stamp : MethodName := ⟨RX6, "stamp", "()I"⟩
abbrev cX6_sharpen : ByteArray := prog_8_method_31_code
def yX6_sharpen : MethodName := ⟨RX6, "sharpen", "(I)I"⟩
abbrev cX6_last : ByteArray := prog_8_method_32_code
def yX6_last : MethodName := ⟨RX6, "last", "(I)I"⟩
abbrev cX6_isSkin : ByteArray := prog_8_method_33_code
def yX6_isSkin : MethodName := ⟨RX6, "isSkin", "(I)Z"⟩
abbrev cX6_isSpot : ByteArray := prog_8_method_34_code
def yX6_isSpot : MethodName := ⟨RX6, "isSpot", "(III)Z"⟩
abbrev cX6_skin : ByteArray := prog_8_method_35_code
def yX6_skin : MethodName := ⟨RX6, "skin", "(III)I"⟩
abbrev cX6_flaw : ByteArray := prog_8_method_36_code
def yX6_flaw : MethodName := ⟨RX6, "flaw", "(III)I"⟩
abbrev cX6_fits : ByteArray := prog_8_method_37_code
def yX6_fits : MethodName := ⟨RX6, "fits", "(IIIII)Z"⟩
abbrev cX6_take : ByteArray := prog_8_method_38_code
def yX6_take : MethodName := ⟨RX6, "take", "(IIIIIZ)I"⟩
abbrev cX6_cutOf : ByteArray := prog_8_method_39_code
def yX6_cutOf : MethodName := ⟨RX6, "cutOf", "(III)I"⟩
abbrev cX6_cut : ByteArray := prog_8_method_40_code
def yX6_cut : MethodName := ⟨RX6, "cut", "(III)I"⟩
abbrev cX6_covers : ByteArray := prog_8_method_41_code
def yX6_covers : MethodName := ⟨RX6, "covers", "(IIII)I"⟩
abbrev cX6_spot : ByteArray := prog_8_method_42_code
def yX6_spot : MethodName := ⟨RX6, "spot", "(III)I"⟩
abbrev cX6_isDay : ByteArray := prog_8_method_43_code
def yX6_isDay : MethodName := ⟨RX6, "isDay", "(I)Z"⟩
abbrev cX6_days : ByteArray := prog_8_method_44_code
def yX6_days : MethodName := ⟨RX6, "days", "(I)I"⟩
abbrev cX6_rate : ByteArray := prog_8_method_45_code
def yX6_rate : MethodName := ⟨RX6, "rate", "(III)I"⟩
abbrev cX6_rateOf : ByteArray := prog_8_method_46_code
def yX6_rateOf : MethodName := ⟨RX6, "rateOf", "(III)I"⟩
abbrev cX6_rateAt : ByteArray := prog_8_method_47_code
def yX6_rateAt : MethodName := ⟨RX6, "rateAt", "(III)I"⟩
abbrev cX6_wages : ByteArray := prog_8_method_48_code
def yX6_wages : MethodName := ⟨RX6, "wages", "(III)I"⟩
abbrev cX6_count : ByteArray := prog_8_method_49_code
def yX6_count : MethodName := ⟨RX6, "count", "(I)I"⟩
def RJ6 : String := "java/lang/Integer"
def TJ6 : u_T := fun k => match k with
  | _ => ("", "", "", false)
def tyJ6 : Nat → FieldType := fun k => match k with
  | _ => .int
abbrev wsJ60 : List Cond := u_ws RJ6 TJ6 0
theorem nmJ6 : ∀ a, a < 0 → ∀ b, b < 0 → a ≠ b → (TJ6 a).2.1 ≠ (TJ6 b).2.1 := by decide +kernel
theorem tyJ6_ok : ∀ k, k < 0 → parseFieldDescriptor (TJ6 k).2.2.1 = some (tyJ6 k) := by decide +kernel
abbrev cJ6_bitCount_0f7a4 : ByteArray := prog_9_method_49_code
def yJ6_bitCount_0f7a4 : MethodName := ⟨RJ6, "bitCount", "(I)I"⟩
def RJ9 : String := "java/lang/Math"
def TJ9 : u_T := fun k => match k with
  | _ => ("", "", "", false)
def tyJ9 : Nat → FieldType := fun k => match k with
  | _ => .int
abbrev wsJ90 : List Cond := u_ws RJ9 TJ9 0
theorem nmJ9 : ∀ a, a < 0 → ∀ b, b < 0 → a ≠ b → (TJ9 a).2.1 ≠ (TJ9 b).2.1 := by decide +kernel
theorem tyJ9_ok : ∀ k, k < 0 → parseFieldDescriptor (TJ9 k).2.2.1 = some (tyJ9 k) := by decide +kernel
abbrev cJ9_max_7cf53 : ByteArray := prog_10_method_65_code
def yJ9_max_7cf53 : MethodName := ⟨RJ9, "max", "(II)I"⟩
def RL : String := "BinderyLaw"
abbrev cL_law : ByteArray := code
def yL_law : MethodName := ⟨RL, "law", "([I)Z"⟩
abbrev vwCl : List vw_C := [(RX0, TX0, 11), (RX1, TX1, 8), (RX2, TX2, 12), (RX3, TX3, 6), (RX4, TX4, 12), (RX5, TX5, 8), (RX6, TX6, 47)]
abbrev MD : Type := MethodName × ByteArray × Nat × Option FieldType
def mX0_init : MD := (yX0_init, cX0_init, 2, none)
def mX0_allOf : MD := (yX0_allOf, cX0_allOf, 1, (some .int))
def mX0_addGathering : MD := (yX0_addGathering, cX0_addGathering, 2, (some .int))
def mX5_within : MD := (yX5_within, cX5_within, 3, (some .boolean))
def mX0_hasGathering : MD := (yX0_hasGathering, cX0_hasGathering, 2, (some .boolean))
def mX0_hasLeaves : MD := (yX0_hasLeaves, cX0_hasLeaves, 3, (some .boolean))
def mJ6_bitCount_0f7a4 : MD := (yJ6_bitCount_0f7a4, cJ6_bitCount_0f7a4, 1, (some .int))
def mX0_inspect : MD := (yX0_inspect, cX0_inspect, 5, (some .int))
def mX0_mayMoveOn : MD := (yX0_mayMoveOn, cX0_mayMoveOn, 1, (some .boolean))
def mX0_moveOn : MD := (yX0_moveOn, cX0_moveOn, 1, (some .int))
def mX0_leavesBelieved : MD := (yX0_leavesBelieved, cX0_leavesBelieved, 3, (some .int))
def mX0_leavesInAll : MD := (yX0_leavesInAll, cX0_leavesInAll, 3, (some .int))
def mX1_init : MD := (yX1_init, cX1_init, 1, none)
def mX1_noteRate : MD := (yX1_noteRate, cX1_noteRate, 5, (some .int))
def mX1_notePass : MD := (yX1_notePass, cX1_notePass, 3, none)
def mX1_penceAt : MD := (yX1_penceAt, cX1_penceAt, 8, (some .int))
def mX1_earned : MD := (yX1_earned, cX1_earned, 6, (some .int))
def mX2_init : MD := (yX2_init, cX2_init, 1, none)
def mX2_clear : MD := (yX2_clear, cX2_clear, 1, none)
def mX2_enlist : MD := (yX2_enlist, cX2_enlist, 4, none)
def mX2_work : MD := (yX2_work, cX2_work, 6, (some .int))
def mX2_keepTrial : MD := (yX2_keepTrial, cX2_keepTrial, 4, none)
def mX2_search : MD := (yX2_search, cX2_search, 7, none)
def mX2_arrange : MD := (yX2_arrange, cX2_arrange, 2, (some .int))
def mX2_hasPlace : MD := (yX2_hasPlace, cX2_hasPlace, 2, (some .boolean))
def mX2_numberAt : MD := (yX2_numberAt, cX2_numberAt, 2, (some .int))
def mX2_placeOf : MD := (yX2_placeOf, cX2_placeOf, 3, (some .int))
def mX2_delayedBy : MD := (yX2_delayedBy, cX2_delayedBy, 6, (some .int))
def mX3_init : MD := (yX3_init, cX3_init, 4, none)
def mX3_hasPlace : MD := (yX3_hasPlace, cX3_hasPlace, 3, (some .boolean))
def mX3_stateOf : MD := (yX3_stateOf, cX3_stateOf, 3, (some .int))
def mX3_fill : MD := (yX3_fill, cX3_fill, 8, none)
def mX3_isFree : MD := (yX3_isFree, cX3_isFree, 7, (some .boolean))
def mX3_cutHere : MD := (yX3_cutHere, cX3_cutHere, 5, (some .boolean))
def mX3_cutCover : MD := (yX3_cutCover, cX3_cutCover, 5, (some .int))
def mX3_cutAlike : MD := (yX3_cutAlike, cX3_cutAlike, 5, (some .int))
def mX3_takeBackAlike : MD := (yX3_takeBackAlike, cX3_takeBackAlike, 2, none)
def mX4_init : MD := (yX4_init, cX4_init, 2, none)
def mX4_addSign : MD := (yX4_addSign, cX4_addSign, 2, (some .int))
def mX4_readWords : MD := (yX4_readWords, cX4_readWords, 4, (some .int))
def mX4_weigh : MD := (yX4_weigh, cX4_weigh, 10, none)
def mX4_layOut : MD := (yX4_layOut, cX4_layOut, 4, none)
def mX4_breakUp : MD := (yX4_breakUp, cX4_breakUp, 6, (some .int))
def mX4_countLetters : MD := (yX4_countLetters, cX4_countLetters, 3, (some .int))
def mX4_wouldBlunt : MD := (yX4_wouldBlunt, cX4_wouldBlunt, 2, (some .boolean))
def mX4_stampAll : MD := (yX4_stampAll, cX4_stampAll, 2, none)
def mX5_init : MD := (yX5_init, cX5_init, 1, none)
def mX5_book : MD := (yX5_book, cX5_book, 1, (some .int))
def mX5_bookAt : MD := (yX5_bookAt, cX5_bookAt, 2, (some (.object "Bindery$Book")))
def mX5_gather : MD := (yX5_gather, cX5_gather, 4, (some .int))
def mX5_look : MD := (yX5_look, cX5_look, 5, (some .int))
def mX5_pass : MD := (yX5_pass, cX5_pass, 3, (some .int))
def mX5_told : MD := (yX5_told, cX5_told, 4, (some .int))
def mX5_there : MD := (yX5_there, cX5_there, 4, (some .int))
def mX5_isBench : MD := (yX5_isBench, cX5_isBench, 1, (some .boolean))
def mX5_gone : MD := (yX5_gone, cX5_gone, 5, (some .int))
def mX5_hours : MD := (yX5_hours, cX5_hours, 5, (some .int))
def mX5_promise : MD := (yX5_promise, cX5_promise, 6, (some .int))
def mX5_plan : MD := (yX5_plan, cX5_plan, 4, (some .int))
def mX5_planned : MD := (yX5_planned, cX5_planned, 3, (some .int))
def mX5_delays : MD := (yX5_delays, cX5_delays, 3, (some .int))
def mX5_isSign : MD := (yX5_isSign, cX5_isSign, 1, (some .boolean))
def mX5_width : MD := (yX5_width, cX5_width, 4, (some .int))
def mX5_sign : MD := (yX5_sign, cX5_sign, 2, (some .int))
def mX5_wipe : MD := (yX5_wipe, cX5_wipe, 2, (some .int))
def mX5_broken : MD := (yX5_broken, cX5_broken, 3, (some .int))
def mX5_line : MD := (yX5_line, cX5_line, 2, (some .int))
def mX5_stamp : MD := (yX5_stamp, cX5_stamp, 2, (some .int))
def mX5_sharpen : MD := (yX5_sharpen, cX5_sharpen, 3, (some .int))
def mX5_last : MD := (yX5_last, cX5_last, 3, (some .int))
def mX5_isSize : MD := (yX5_isSize, cX5_isSize, 2, (some .boolean))
def mX5_skin : MD := (yX5_skin, cX5_skin, 4, (some .int))
def mX5_skinAt : MD := (yX5_skinAt, cX5_skinAt, 2, (some (.object "Bindery$Skin")))
def mX5_flaw : MD := (yX5_flaw, cX5_flaw, 5, (some .int))
def mX5_cut : MD := (yX5_cut, cX5_cut, 6, (some .int))
def mX5_takeBackAlike : MD := (yX5_takeBackAlike, cX5_takeBackAlike, 4, none)
def mX5_covers : MD := (yX5_covers, cX5_covers, 10, (some .int))
def mX5_spot : MD := (yX5_spot, cX5_spot, 5, (some .int))
def mX5_days : MD := (yX5_days, cX5_days, 2, (some .int))
def mX5_isDay : MD := (yX5_isDay, cX5_isDay, 1, (some .boolean))
def mX5_rate : MD := (yX5_rate, cX5_rate, 4, (some .int))
def mX5_rateAt : MD := (yX5_rateAt, cX5_rateAt, 4, (some .int))
def mX5_wages : MD := (yX5_wages, cX5_wages, 4, (some .int))
def mX5_count : MD := (yX5_count, cX5_count, 2, (some .int))
def mX6_init : MD := (yX6_init, cX6_init, 2, none)
def mX6_in : MD := (yX6_in, cX6_in, 3, (some .boolean))
def mX6_isBook : MD := (yX6_isBook, cX6_isBook, 2, (some .boolean))
def mX6_isBench : MD := (yX6_isBench, cX6_isBench, 1, (some .boolean))
def mX6_isGathering : MD := (yX6_isGathering, cX6_isGathering, 3, (some .boolean))
def mX6_many : MD := (yX6_many, cX6_many, 3, (some .int))
def mX6_book : MD := (yX6_book, cX6_book, 2, (some .int))
def mX6_gather : MD := (yX6_gather, cX6_gather, 4, (some .int))
def mX6_look : MD := (yX6_look, cX6_look, 7, (some .int))
def mX6_pass : MD := (yX6_pass, cX6_pass, 4, (some .int))
def mX6_told : MD := (yX6_told, cX6_told, 5, (some .int))
def mX6_there : MD := (yX6_there, cX6_there, 3, (some .int))
def mX6_gone : MD := (yX6_gone, cX6_gone, 4, (some .int))
def mX6_hours : MD := (yX6_hours, cX6_hours, 4, (some .int))
def mX6_promise : MD := (yX6_promise, cX6_promise, 5, (some .int))
def mX6_findEnds : MD := (yX6_findEnds, cX6_findEnds, 5, none)
def mX6_tell : MD := (yX6_tell, cX6_tell, 11, none)
def mX6_plan : MD := (yX6_plan, cX6_plan, 10, (some .int))
def mX6_planned : MD := (yX6_planned, cX6_planned, 3, (some .int))
def mX6_delays : MD := (yX6_delays, cX6_delays, 7, (some .int))
def mX6_width : MD := (yX6_width, cX6_width, 4, (some .int))
def mX6_sign : MD := (yX6_sign, cX6_sign, 2, (some .int))
def mX6_wipe : MD := (yX6_wipe, cX6_wipe, 2, (some .int))
def mX6_findWords : MD := (yX6_findWords, cX6_findWords, 2, none)
def mX6_wideOf : MD := (yX6_wideOf, cX6_wideOf, 5, (some .int))
def mX6_through : MD := (yX6_through, cX6_through, 7, (some .int))
def mX6_broken : MD := (yX6_broken, cX6_broken, 8, (some .int))
def mX6_line : MD := (yX6_line, cX6_line, 2, (some .int))
def mX6_often : MD := (yX6_often, cX6_often, 4, (some .int))
def mX6_stamp : MD := (yX6_stamp, cX6_stamp, 5, (some .int))
def mX6_sharpen : MD := (yX6_sharpen, cX6_sharpen, 3, (some .int))
def mX6_last : MD := (yX6_last, cX6_last, 3, (some .int))
def mX6_isSkin : MD := (yX6_isSkin, cX6_isSkin, 2, (some .boolean))
def mX6_isSpot : MD := (yX6_isSpot, cX6_isSpot, 4, (some .boolean))
def mX6_skin : MD := (yX6_skin, cX6_skin, 4, (some .int))
def mX6_flaw : MD := (yX6_flaw, cX6_flaw, 5, (some .int))
def mX6_fits : MD := (yX6_fits, cX6_fits, 9, (some .boolean))
def mX6_take : MD := (yX6_take, cX6_take, 9, (some .int))
def mX6_cutOf : MD := (yX6_cutOf, cX6_cutOf, 6, (some .int))
def mX6_cut : MD := (yX6_cut, cX6_cut, 5, (some .int))
def mX6_covers : MD := (yX6_covers, cX6_covers, 8, (some .int))
def mX6_spot : MD := (yX6_spot, cX6_spot, 4, (some .int))
def mX6_isDay : MD := (yX6_isDay, cX6_isDay, 1, (some .boolean))
def mX6_days : MD := (yX6_days, cX6_days, 2, (some .int))
def mX6_rate : MD := (yX6_rate, cX6_rate, 4, (some .int))
def mX6_rateOf : MD := (yX6_rateOf, cX6_rateOf, 7, (some .int))
def mX6_rateAt : MD := (yX6_rateAt, cX6_rateAt, 4, (some .int))
def mX6_wages : MD := (yX6_wages, cX6_wages, 6, (some .int))
def mX6_count : MD := (yX6_count, cX6_count, 2, (some .int))
def mJ9_max_7cf53 : MD := (yJ9_max_7cf53, cJ9_max_7cf53, 2, (some .int))
def mL_law : MD := (yL_law, cL_law, 4, some .boolean)
end
section
/-! values of the pure machine: an int, a reference (a number of a cell, or null), the script -/
abbrev PV : Type := Int32 ⊕ (Option Nat ⊕ Unit)
abbrev pv_i (x : Int32) : PV := Sum.inl x
abbrev pv_q (r : Option Nat) : PV := Sum.inr (Sum.inl r)
abbrev pv_r (k : Nat) : PV := Sum.inr (Sum.inl (some k))
abbrev pv_s : PV := Sum.inr (Sum.inr ())
def pm_v (b : Nat) (ad : Nat → Nat) (v : PV) : Value := match v with
  | .inl x => .int x
  | .inr (.inl r) => va_rf (r.map ad)
  | .inr (.inr _) => .ref b
theorem pm_cat (b : Nat) (ad : Nat → Nat) (v : PV) : (pm_v b ad v).category = 1 := by
  rcases v with x | (_ | r) | x <;> rfl
/-- shapes of the cells (an object of class ci; an array of kind t and length n), their ints, their references -/
abbrev SH : Type := List (Nat ⊕ (Nat × Nat))
abbrev MI : Type := Nat → Nat → Int32
abbrev MR : Type := Nat → Nat → Option Nat
abbrev PO : Type := Option PV → SH → MI → MR → Prop
def up_2 {α : Type} (f : Nat → Nat → α) (k j : Nat) (v : α) : Nat → Nat → α := fun a b => if a = k ∧ b = j then v else f a b
theorem up_2_row {α : Type} {f : Nat → Nat → α} {k j a : Nat} {v : α} (h : a ≠ k) : up_2 f k j v a = f a := by
  funext b
  simp [up_2, h]
def cl_n (ci : Nat) : Nat := match ci with
  | 0 => 11
  | 1 => 8
  | 2 => 12
  | 3 => 6
  | 4 => 12
  | 5 => 8
  | 6 => 47
  | _ => 0
def cl_ty (ci : Nat) : Nat → FieldType := match ci with
  | 0 => tyX0
  | 1 => tyX1
  | 2 => tyX2
  | 3 => tyX3
  | 4 => tyX4
  | 5 => tyX5
  | _ => tyX6
def cl_rf (t : FieldType) : Bool := match t with
  | .int => false
  | _ => true
def cl_ref (ci j : Nat) : Bool := cl_rf (cl_ty ci j)
def ce_v (ad : Nat → Nat) (mi : MI) (mr : MR) (k ci j : Nat) : Value := if cl_ref ci j = true then va_rf ((mr k j).map ad) else .int (mi k j)
def ce_fs (ad : Nat → Nat) (mi : MI) (mr : MR) (k ci : Nat) : List Value := (List.range (cl_n ci)).map (ce_v ad mi mr k ci)
def ce_ar (ad : Nat → Nat) (mi : MI) (mr : MR) (k t : Nat) : (Nat → Int32) ⊕ (Nat → Int64) ⊕ (Nat → UInt32) ⊕ (Nat → UInt64) ⊕ (Nat → Option Nat) := match t with
  | 0 => .inl (mi k)
  | 1 => .inl (mi k)
  | _ => .inr (.inr (.inr (.inr (fun j => (mr k j).map ad))))
def ce_at (cA : Nat → ClassId) (ad : Nat → Nat) (mi : MI) (mr : MR) (k : Nat) (s : Nat ⊕ (Nat × Nat)) : va_E := match s with
  | .inl ci => .inr (ci, ce_fs ad mi mr k ci)
  | .inr (t, n) => .inl (cA t, n, ce_ar ad mi mr k t)
def ce_ws (cA : Nat → ClassId) (ad : Nat → Nat) (sh : SH) (mi : MI) (mr : MR) : va_W := sh.mapIdx (fun k s => (ad k, ce_at cA ad mi mr k s))
def ce_ty (t : Nat) : FieldType := match t with
  | 0 => .int
  | 1 => .boolean
  | 2 => .object "Bindery$Book"
  | _ => .object "Bindery$Skin"
def ce_tys (cA : Nat → ClassId) : List (ClassId × FieldType) := [(cA 0, ce_ty 0), (cA 1, ce_ty 1), (cA 2, ce_ty 2), (cA 3, ce_ty 3)]
theorem ce_get {cA : Nat → ClassId} {ad : Nat → Nat} {sh : SH} {mi : MI} {mr : MR} {k : Nat} {s : Nat ⊕ (Nat × Nat)} (h : sh[k]? = some s) : (ce_ws cA ad sh mi mr)[k]? = some (ad k, ce_at cA ad mi mr k s) := by
  simp [ce_ws, List.getElem?_mapIdx, h]
theorem ce_fs_at {ad : Nat → Nat} {mi : MI} {mr : MR} {k ci j : Nat} (h : j < cl_n ci) : (ce_fs ad mi mr k ci)[j]? = some (ce_v ad mi mr k ci j) := by
  simp [ce_fs, h]
theorem ce_fs_len {ad : Nat → Nat} {mi : MI} {mr : MR} {k ci : Nat} : (ce_fs ad mi mr k ci).length = cl_n ci := by
  simp [ce_fs]
/-- cells of which nothing differs -/
theorem ce_at_eq {cA : Nat → ClassId} {ad : Nat → Nat} {mi mi2 : MI} {mr mr2 : MR} {k : Nat} {s : Nat ⊕ (Nat × Nat)} (h1 : mi2 k = mi k) (h2 : mr2 k = mr k) : ce_at cA ad mi2 mr2 k s = ce_at cA ad mi mr k s := by
  rcases s with ci | ⟨t, n⟩
  · simp only [ce_at, ce_fs]
    congr 2
    refine List.map_congr_left (fun j _ => ?_)
    simp [ce_v, h1, h2]
  · simp only [ce_at, ce_ar, h1, h2]
theorem ce_set {cA : Nat → ClassId} {ad : Nat → Nat} {sh : SH} {mi mi2 : MI} {mr mr2 : MR} {k : Nat} {s : Nat ⊕ (Nat × Nat)} {w : va_E} (h : sh[k]? = some s) (h1 : ∀ i, i ≠ k → mi2 i = mi i) (h2 : ∀ i, i ≠ k → mr2 i = mr i) (hw : w = ce_at cA ad mi2 mr2 k s) : (ce_ws cA ad sh mi mr).set k (ad k, w) = ce_ws cA ad sh mi2 mr2 := by
  subst hw
  apply List.ext_getElem?
  intro i
  by_cases hi : i = k
  · subst hi
    rw [ce_get h]
    have hl : i < (ce_ws cA ad sh mi mr).length := by
      have := (List.getElem?_eq_some_iff.mp h).1
      simpa [ce_ws] using this
    rw [List.getElem?_set_self hl]
  · rw [List.getElem?_set_ne (Ne.symm hi)]
    simp only [ce_ws, List.getElem?_mapIdx]
    cases hs : sh[i]? with
    | none => rfl
    | some s2 => simp [ce_at_eq (cA := cA) (ad := ad) (s := s2) (h1 i hi) (h2 i hi)]
/-- the words of the tables that ride along -/
def tb_w : List Cond := lw_tbl.filter goodWord
theorem tb_of {w : Cond} (h : w ∈ lw_tbl) (g : goodWord w = true) : w ∈ tb_w := List.mem_filter.mpr ⟨h, g⟩
theorem tb_good {w : Cond} (h : w ∈ tb_w) : goodWord w = true := (List.mem_filter.mp h).2
def nl_w : List (String × Nat × MethodName × String) := [("Bindery", 17, yX2_init, "Bindery"), ("Bindery", 37, yX1_init, "Bindery"), ("Bindery$Book", 50, yX5_within, "Bindery"), ("Bindery$Planner", 68, yX5_within, "Bindery"), ("Bindery$Skin", 31, yX5_within, "Bindery"), ("Bindery$Ledger", 37, yX5_within, "Bindery")]
def kk_w (D : va_G) (cA : Nat → ClassId) (U : State) : Prop := va_K D vwCl (ce_tys cA) U ∧ (∀ q ∈ nl_w, va_Nw (.methodLinkNest q.1 q.2.1 q.2.2.1 q.2.2.2) U) ∧ va_AO "Bindery$Book" U ∧ va_AO "Bindery$Skin" U
theorem kk_w.warm {D : va_G} {cA : Nat → ClassId} {s U : State} (hW : s.WarmedH U.vm) (h : kk_w D cA s) : kk_w D cA U :=
  ⟨va_K.moved hW.alike h.1, fun q hq => va_Nw.warmM hW (h.2.1 q hq), va_AO.moved hW.alike h.2.2.1, va_AO.moved hW.alike h.2.2.2⟩
theorem kk_w.same {D : va_G} {cA : Nat → ClassId} {s U : State} (hv : s.vm = U.vm) (h : kk_w D cA s) : kk_w D cA U := by
  have ha : s.vm.Alike U.vm := by rw [← hv]; exact Vm.Alike.refl s.vm
  exact ⟨va_K.moved ha h.1, fun q hq => va_Nw.same rfl hv (h.2.1 q hq), va_AO.moved ha h.2.2.1, va_AO.moved ha h.2.2.2⟩
/-- what stands through a method -/
def cx_c (M : MD) (p : Program) (s : State) (mid : MethodId) (args : Array Value) (meth : Method) (c : Code) (D : va_G) (cA : Nat → ClassId) (A : Nat → Prop) : Prop :=
  p.tables.exec = Jvm.exec ∧ c.code = M.2.1 ∧ meth.sig.returnType = M.2.2.2 ∧ c.maxLocals = M.2.2.1 ∧ s.vm.findClass M.1.cls = some mid.cls ∧ (∀ w ∈ tb_w, w.before args s = true) ∧ meth.locks = false ∧ (M.1.name = "<init>" → meth.name = "<init>") ∧ kk_w D cA s ∧ ∀ q, s.heap.size ≤ q → A q
def sx_c (X : Option (Nat × (Nat → Int32))) (b : Nat) (A : Nat → Prop) (s : State) : Prop := ∀ (n : Nat) (xs : Nat → Int32), X = some (n, xs) → va_X b n xs s s.heap ∧ b < s.heap.size ∧ ¬ A b
def wx_c (D : va_G) (cA : Nat → ClassId) (ad : Nat → Nat) (sh : SH) (mi : MI) (mr : MR) (A : Nat → Prop) (s : State) (H : Heap) (locs : List Loc) : Prop :=
  va_P D vwCl (ce_ws cA ad sh mi mr) H ∧ va_D A (ce_ws cA ad sh mi mr) ∧ va_S A s.heap H locs
def lh_c (ls : Array Slot) (n b : Nat) (ad : Nat → Nat) (L : List (Option PV)) : Prop := ls.size = n ∧ lv_wf ls ∧ ∀ (k : Nat) (v : PV), L[k]? = some (some v) → ls[k]? = some (.val (pm_v b ad v))
def ex_c (sh : SH) (ad : Nat → Nat) (sh2 : SH) (ad2 : Nat → Nat) : Prop := sh.length ≤ sh2.length ∧ (∀ i, i < sh.length → ad2 i = ad i) ∧ (sh2.length = sh.length → ad2 = ad)
theorem ex_rf {sh : SH} {ad : Nat → Nat} : ex_c sh ad sh ad := ⟨Nat.le_refl _, fun _ _ => rfl, fun _ => rfl⟩
theorem ex_tr {sh sh1 sh2 : SH} {ad ad1 ad2 : Nat → Nat} (h : ex_c sh ad sh1 ad1) (h2 : ex_c sh1 ad1 sh2 ad2) : ex_c sh ad sh2 ad2 :=
  ⟨Nat.le_trans h.1 h2.1, fun i hi => (h2.2.1 i (Nat.lt_of_lt_of_le hi h.1)).trans (h.2.1 i hi), fun hh => by
    have e1 : sh1.length = sh.length := Nat.le_antisymm (by rw [← hh]; exact h2.1) h.1
    exact (h2.2.2 (hh.trans e1.symm)).trans (h.2.2 e1)⟩
def rt_c (M : MD) (pc : Nat) (v : Option PV) : Prop := match v with
  | none => decode M.2.1 pc = .ok (.return_, 1) ∧ M.2.2.2 = none
  | some (.inl x) => decode M.2.1 pc = .ok (.ireturn, 1) ∧ ∃ ty, M.2.2.2 = some ty ∧ narrow ty (.int x) = .int x
  | some (.inr (.inl _)) => decode M.2.1 pc = .ok (.areturn, 1) ∧ ∃ n, M.2.2.2 = some (.object n)
  | some (.inr (.inr _)) => False
/-- THE JUDGEMENT: from pc with these locals, this stack, these cells the method returns, and what it returns is as Po says; at most mc cells of ms slots are made; d frames are enough -/
def EV (X : Option (Nat × (Nat → Int32))) (d mc ms : Nat) (M : MD) (pc : Nat) (L : List (Option PV)) (S : List PV) (sh : SH) (mi : MI) (mr : MR) (Po : PO) : Prop :=
  ∀ (p : Program) (l : Launch) (e : Env) (R : Room) (s : State) (mid : MethodId) (args : Array Value) (below : List Frame) (meth : Method) (c : Code) (D : va_G) (cA : Nat → ClassId) (A : Nat → Prop) (b : Nat) (Q : State → Prop) (ad : Nat → Nat) (H : Heap) (locs : List Loc) (cells slots : Nat) (ls : Array Slot),
    cx_c M p s mid args meth c D cA A → sx_c X b A s → (d ≤ R.frames ∧ 40 * d ≤ R.locals ∧ cells + mc ≤ R.cells ∧ slots + ms ≤ R.slots) → wx_c D cA ad sh mi mr A s H locs → lh_c ls M.2.2.1 b ad L →
    (∀ (v : Option PV) (sh2 : SH) (mi2 : MI) (mr2 : MR) (ad2 : Nat → Nat) (H2 : Heap) (locs2 : List Loc) (cells2 slots2 pc2 : Nat) (ls2 : Array Slot), Po v sh2 mi2 mr2 → ex_c sh ad sh2 ad2 → wx_c D cA ad2 sh2 mi2 mr2 A s H2 locs2 → (cells2 ≤ cells + mc ∧ slots2 ≤ slots + ms) → rt_c M pc2 v →
      W p l e R s mid args below meth c H2 locs2 cells2 slots2 Q (F0 mid pc2 ls2 (v.toList.map (pm_v b ad2)))) →
    W p l e R s mid args below meth c H locs cells slots Q (F0 mid pc ls (S.map (pm_v b ad)))
/-- locals as the kit lists them -/
def as_l (b : Nat) (ad : Nat → Nat) (L : List (Option PV)) : List (Nat × Value) := L.zipIdx.filterMap (fun q => q.1.map (fun v => (q.2, pm_v b ad v)))
theorem as_mem {b : Nat} {ad : Nat → Nat} {L : List (Option PV)} {k : Nat} {w : Value} : (k, w) ∈ as_l b ad L ↔ ∃ v, L[k]? = some (some v) ∧ w = pm_v b ad v := by
  constructor
  · intro h
    obtain ⟨⟨o, i⟩, h1, h2⟩ := List.mem_filterMap.mp h
    have h3 := List.mem_zipIdx_iff_getElem?.mp h1
    cases o with
    | none => cases h2
    | some v =>
      cases h2
      exact ⟨v, h3, rfl⟩
  · rintro ⟨v, h1, rfl⟩
    exact List.mem_filterMap.mpr ⟨(some v, k), List.mem_zipIdx_iff_getElem?.mpr h1, rfl⟩
theorem as_has {ls : Array Slot} {n b : Nat} {ad : Nat → Nat} {L : List (Option PV)} (h : lh_c ls n b ad L) : lv_has ls n (as_l b ad L) := by
  refine ⟨h.1, h.2.1, fun q hq => ?_⟩
  obtain ⟨k, w⟩ := q
  obtain ⟨v, h1, rfl⟩ := as_mem.mp hq
  exact h.2.2 k v h1
theorem as_set {ls : Array Slot} {n b i : Nat} {ad : Nat → Nat} {L : List (Option PV)} {v : PV} (h : lv_has ls n ((i, pm_v b ad v) :: (as_l b ad L).filter (fun q => !(q.1 == i) && !(q.1 + 1 == i && q.2.category == 2)))) : lh_c ls n b ad (L.set i (some v)) := by
  refine ⟨h.1, h.2.1, fun k w hk => ?_⟩
  by_cases hi : k = i
  · subst hi
    have hl : k < L.length := by
      have := (List.getElem?_eq_some_iff.mp hk).1
      simpa using this
    rw [List.getElem?_set_self hl] at hk
    cases hk
    exact h.2.2 (k, pm_v b ad v) List.mem_cons_self
  · rw [List.getElem?_set_ne (Ne.symm hi)] at hk
    refine h.2.2 (k, pm_v b ad w) (List.mem_cons_of_mem _ (List.mem_filter.mpr ⟨as_mem.mpr ⟨w, hk, rfl⟩, ?_⟩))
    simp [hi, pm_cat]
section EVS
variable {X : Option (Nat × (Nat → Int32))} {d mc ms : Nat} {M : MD} {pc : Nat} {L : List (Option PV)} {S : List PV} {sh : SH} {mi : MI} {mr : MR} {Po : PO}
theorem ev_lift {pc2 : Nat} {S2 : List PV} (h : ∀ (p : Program) (l : Launch) (e : Env) (R : Room) (s : State) (mid : MethodId) (args : Array Value) (below : List Frame) (meth : Method) (c : Code) (H : Heap) (locs : List Loc) (cells slots : Nat) (Q : State → Prop) (ls : Array Slot) (b : Nat) (ad : Nat → Nat) (D : va_G) (cA : Nat → ClassId) (A : Nat → Prop),
      cx_c M p s mid args meth c D cA A → sx_c X b A s → wx_c D cA ad sh mi mr A s H locs → lh_c ls M.2.2.1 b ad L → W p l e R s mid args below meth c H locs cells slots Q (F0 mid pc2 ls (S2.map (pm_v b ad))) → W p l e R s mid args below meth c H locs cells slots Q (F0 mid pc ls (S.map (pm_v b ad))))
    (kk : EV X d mc ms M pc2 L S2 sh mi mr Po) : EV X d mc ms M pc L S sh mi mr Po :=
  fun p l e R s mid args below meth c D cA A b Q ad H locs cells slots ls hC hX hR hW hl hr => h p l e R s mid args below meth c H locs cells slots Q ls b ad D cA A hC hX hW hl (kk p l e R s mid args below meth c D cA A b Q ad H locs cells slots ls hC hX hR hW hl hr)
theorem ev_iconst {n : Int} {v : Int32} (hd : decode M.2.1 pc = .ok (.iconst n, 1)) (hv : Int32.ofInt n = v) (kk : EV X d mc ms M (pc + 1) L (pv_i v :: S) sh mi mr Po) : EV X d mc ms M pc L S sh mi mr Po :=
  ev_lift (fun _ _ _ _ _ _ _ _ _ _ _ _ _ _ _ _ _ _ _ _ _ hC _ _ _ k => lv_iconst hC.1 hC.2.1 hd hv k) kk
theorem ev_bipush {n : Int} {v : Int32} (hd : decode M.2.1 pc = .ok (.bipush n, 2)) (hv : (Int8.ofInt n).toInt32 = v) (kk : EV X d mc ms M (pc + 2) L (pv_i v :: S) sh mi mr Po) : EV X d mc ms M pc L S sh mi mr Po :=
  ev_lift (fun _ _ _ _ _ _ _ _ _ _ _ _ _ _ _ _ _ _ _ _ _ hC _ _ _ k => lv_bipush hC.1 hC.2.1 hd hv k) kk
theorem ev_sipush {n : Int} {v : Int32} (hd : decode M.2.1 pc = .ok (.sipush n, 3)) (hv : (Int16.ofInt n).toInt32 = v) (kk : EV X d mc ms M (pc + 3) L (pv_i v :: S) sh mi mr Po) : EV X d mc ms M pc L S sh mi mr Po :=
  ev_lift (fun _ _ _ _ _ _ _ _ _ _ _ _ _ _ _ _ _ _ _ _ _ hC _ _ _ k => lv_sipush hC.1 hC.2.1 hd hv k) kk
theorem ev_ldc {idx : Nat} {v : Int32} (hd : decode M.2.1 pc = .ok (.ldc idx, 2)) (hw : Cond.constant M.1.cls idx v ∈ tb_w) (kk : EV X d mc ms M (pc + 2) L (pv_i v :: S) sh mi mr Po) : EV X d mc ms M pc L S sh mi mr Po :=
  ev_lift (fun _ _ _ _ _ _ _ _ _ _ _ _ _ _ _ _ _ _ _ _ _ hC _ _ _ k => lv_ldc hC.1 hC.2.1 hC.2.2.2.2.1 (hC.2.2.2.2.2.1 _ hw) hd k) kk
theorem ev_ldcw {idx : Nat} {v : Int32} (hd : decode M.2.1 pc = .ok (.ldc_w idx, 3)) (hw : Cond.constant M.1.cls idx v ∈ tb_w) (kk : EV X d mc ms M (pc + 3) L (pv_i v :: S) sh mi mr Po) : EV X d mc ms M pc L S sh mi mr Po :=
  ev_lift (fun _ _ _ _ _ _ _ _ _ _ _ _ _ _ _ _ _ _ _ _ _ hC _ _ _ k => lv_ldcw hC.1 hC.2.1 hC.2.2.2.2.1 (hC.2.2.2.2.2.1 _ hw) hd k) kk
theorem ev_iload_n {k : Fin 4} {x : Int32} (hd : decode M.2.1 pc = .ok (.iload_n k, 1)) (hl : L[(k : Nat)]? = some (some (pv_i x))) (kk : EV X d mc ms M (pc + 1) L (pv_i x :: S) sh mi mr Po) : EV X d mc ms M pc L S sh mi mr Po :=
  ev_lift (fun _ _ _ _ _ _ _ _ _ _ _ _ _ _ _ _ _ _ _ _ _ hC _ _ hL k => lv_iload_n hC.1 hC.2.1 hd rfl (hL.2.2 _ _ hl) k) kk
theorem ev_iload {k : Nat} {x : Int32} (hd : decode M.2.1 pc = .ok (.iload k, 2)) (hl : L[k]? = some (some (pv_i x))) (kk : EV X d mc ms M (pc + 2) L (pv_i x :: S) sh mi mr Po) : EV X d mc ms M pc L S sh mi mr Po :=
  ev_lift (fun _ _ _ _ _ _ _ _ _ _ _ _ _ _ _ _ _ _ _ _ _ hC _ _ hL k => lv_iload hC.1 hC.2.1 hd (hL.2.2 _ _ hl) k) kk
theorem ev_aload_n {k : Fin 4} {r : Option Nat} (hd : decode M.2.1 pc = .ok (.aload_n k, 1)) (hl : L[(k : Nat)]? = some (some (pv_q r))) (kk : EV X d mc ms M (pc + 1) L (pv_q r :: S) sh mi mr Po) : EV X d mc ms M pc L S sh mi mr Po := by
  cases r with
  | none => exact ev_lift (fun _ _ _ _ _ _ _ _ _ _ _ _ _ _ _ _ _ _ _ _ _ hC _ _ hL k => lv_aload_nN hC.1 hC.2.1 hd rfl (hL.2.2 _ _ hl) k) kk
  | some r => exact ev_lift (fun _ _ _ _ _ _ _ _ _ _ _ _ _ _ _ _ _ _ _ _ _ hC _ _ hL k => lv_aload_n hC.1 hC.2.1 hd rfl (hL.2.2 _ _ hl) k) kk
theorem ev_aload {k : Nat} {r : Option Nat} (hd : decode M.2.1 pc = .ok (.aload k, 2)) (hl : L[k]? = some (some (pv_q r))) (kk : EV X d mc ms M (pc + 2) L (pv_q r :: S) sh mi mr Po) : EV X d mc ms M pc L S sh mi mr Po := by
  cases r with
  | none => exact ev_lift (fun _ _ _ _ _ _ _ _ _ _ _ _ _ _ _ _ _ _ _ _ _ hC _ _ hL k => lv_aloadN hC.1 hC.2.1 hd (hL.2.2 _ _ hl) k) kk
  | some r => exact ev_lift (fun _ _ _ _ _ _ _ _ _ _ _ _ _ _ _ _ _ _ _ _ _ hC _ _ hL k => lv_aload hC.1 hC.2.1 hd (hL.2.2 _ _ hl) k) kk
theorem ev_sload {k : Fin 4} (hd : decode M.2.1 pc = .ok (.aload_n k, 1)) (hl : L[(k : Nat)]? = some (some pv_s)) (kk : EV X d mc ms M (pc + 1) L (pv_s :: S) sh mi mr Po) : EV X d mc ms M pc L S sh mi mr Po :=
  ev_lift (fun _ _ _ _ _ _ _ _ _ _ _ _ _ _ _ _ _ _ _ _ _ hC _ _ hL k => lv_aload_n hC.1 hC.2.1 hd rfl (hL.2.2 _ _ hl) k) kk
theorem ev_null (hd : decode M.2.1 pc = .ok (.aconst_null, 1)) (kk : EV X d mc ms M (pc + 1) L (pv_q none :: S) sh mi mr Po) : EV X d mc ms M pc L S sh mi mr Po :=
  ev_lift (fun _ _ _ _ _ _ _ _ _ _ _ _ _ _ _ _ _ _ _ _ _ hC _ _ _ k => lv_null hC.1 hC.2.1 hd k) kk
theorem ev_iadd {x y : Int32} (hd : decode M.2.1 pc = .ok (.iadd, 1)) (kk : EV X d mc ms M (pc + 1) L (pv_i (x + y) :: S) sh mi mr Po) : EV X d mc ms M pc L (pv_i y :: pv_i x :: S) sh mi mr Po :=
  ev_lift (fun _ _ _ _ _ _ _ _ _ _ _ _ _ _ _ _ _ _ _ _ _ hC _ _ _ k => lv_iadd hC.1 hC.2.1 hd k) kk
theorem ev_isub {x y : Int32} (hd : decode M.2.1 pc = .ok (.isub, 1)) (kk : EV X d mc ms M (pc + 1) L (pv_i (x - y) :: S) sh mi mr Po) : EV X d mc ms M pc L (pv_i y :: pv_i x :: S) sh mi mr Po :=
  ev_lift (fun _ _ _ _ _ _ _ _ _ _ _ _ _ _ _ _ _ _ _ _ _ hC _ _ _ k => lv_isub hC.1 hC.2.1 hd k) kk
theorem ev_imul {x y : Int32} (hd : decode M.2.1 pc = .ok (.imul, 1)) (kk : EV X d mc ms M (pc + 1) L (pv_i (x * y) :: S) sh mi mr Po) : EV X d mc ms M pc L (pv_i y :: pv_i x :: S) sh mi mr Po :=
  ev_lift (fun _ _ _ _ _ _ _ _ _ _ _ _ _ _ _ _ _ _ _ _ _ hC _ _ _ k => lv_imul hC.1 hC.2.1 hd k) kk
theorem ev_iand {x y : Int32} (hd : decode M.2.1 pc = .ok (.iand, 1)) (kk : EV X d mc ms M (pc + 1) L (pv_i (x &&& y) :: S) sh mi mr Po) : EV X d mc ms M pc L (pv_i y :: pv_i x :: S) sh mi mr Po :=
  ev_lift (fun _ _ _ _ _ _ _ _ _ _ _ _ _ _ _ _ _ _ _ _ _ hC _ _ _ k => lv_iand hC.1 hC.2.1 hd k) kk
theorem ev_ior {x y : Int32} (hd : decode M.2.1 pc = .ok (.ior, 1)) (kk : EV X d mc ms M (pc + 1) L (pv_i (x ||| y) :: S) sh mi mr Po) : EV X d mc ms M pc L (pv_i y :: pv_i x :: S) sh mi mr Po :=
  ev_lift (fun _ _ _ _ _ _ _ _ _ _ _ _ _ _ _ _ _ _ _ _ _ hC _ _ _ k => lv_ior hC.1 hC.2.1 hd k) kk
theorem ev_ixor {x y : Int32} (hd : decode M.2.1 pc = .ok (.ixor, 1)) (kk : EV X d mc ms M (pc + 1) L (pv_i (x ^^^ y) :: S) sh mi mr Po) : EV X d mc ms M pc L (pv_i y :: pv_i x :: S) sh mi mr Po :=
  ev_lift (fun _ _ _ _ _ _ _ _ _ _ _ _ _ _ _ _ _ _ _ _ _ hC _ _ _ k => lv_ixor hC.1 hC.2.1 hd k) kk
theorem ev_idiv {x y : Int32} (hd : decode M.2.1 pc = .ok (.idiv, 1)) (hy : ¬ y = 0) (kk : EV X d mc ms M (pc + 1) L (pv_i (x / y) :: S) sh mi mr Po) : EV X d mc ms M pc L (pv_i y :: pv_i x :: S) sh mi mr Po :=
  ev_lift (fun _ _ _ _ _ _ _ _ _ _ _ _ _ _ _ _ _ _ _ _ _ hC _ _ _ k => lv_idiv hC.1 hC.2.1 hd hy k) kk
theorem ev_irem {x y : Int32} (hd : decode M.2.1 pc = .ok (.irem, 1)) (hy : ¬ y = 0) (kk : EV X d mc ms M (pc + 1) L (pv_i (x - x / y * y) :: S) sh mi mr Po) : EV X d mc ms M pc L (pv_i y :: pv_i x :: S) sh mi mr Po :=
  ev_lift (fun _ _ _ _ _ _ _ _ _ _ _ _ _ _ _ _ _ _ _ _ _ hC _ _ _ k => lv_irem hC.1 hC.2.1 hd hy k) kk
theorem ev_ineg {x : Int32} (hd : decode M.2.1 pc = .ok (.ineg, 1)) (kk : EV X d mc ms M (pc + 1) L (pv_i (-x) :: S) sh mi mr Po) : EV X d mc ms M pc L (pv_i x :: S) sh mi mr Po :=
  ev_lift (fun _ _ _ _ _ _ _ _ _ _ _ _ _ _ _ _ _ _ _ _ _ hC _ _ _ k => lv_ineg hC.1 hC.2.1 hd k) kk
theorem ev_ishl {x y : Int32} (hd : decode M.2.1 pc = .ok (.ishl, 1)) (kk : EV X d mc ms M (pc + 1) L (pv_i (x <<< (y &&& 31)) :: S) sh mi mr Po) : EV X d mc ms M pc L (pv_i y :: pv_i x :: S) sh mi mr Po :=
  ev_lift (fun _ _ _ _ _ _ _ _ _ _ _ _ _ _ _ _ _ _ _ _ _ hC _ _ _ k => lv_ishl hC.1 hC.2.1 hd k) kk
theorem ev_ishr {x y : Int32} (hd : decode M.2.1 pc = .ok (.ishr, 1)) (kk : EV X d mc ms M (pc + 1) L (pv_i (x >>> (y &&& 31)) :: S) sh mi mr Po) : EV X d mc ms M pc L (pv_i y :: pv_i x :: S) sh mi mr Po :=
  ev_lift (fun _ _ _ _ _ _ _ _ _ _ _ _ _ _ _ _ _ _ _ _ _ hC _ _ _ k => lv_ishr hC.1 hC.2.1 hd k) kk
theorem ev_iushr {x y : Int32} (hd : decode M.2.1 pc = .ok (.iushr, 1)) (kk : EV X d mc ms M (pc + 1) L (pv_i (x.toUInt32 >>> (y.toUInt32 &&& Int32.toUInt32 31)).toInt32 :: S) sh mi mr Po) : EV X d mc ms M pc L (pv_i y :: pv_i x :: S) sh mi mr Po :=
  ev_lift (fun _ _ _ _ _ _ _ _ _ _ _ _ _ _ _ _ _ _ _ _ _ hC _ _ _ k => lv_iushr hC.1 hC.2.1 hd rfl k) kk
theorem ev_dup {v : PV} (hd : decode M.2.1 pc = .ok (.dup, 1)) (kk : EV X d mc ms M (pc + 1) L (v :: v :: S) sh mi mr Po) : EV X d mc ms M pc L (v :: S) sh mi mr Po :=
  ev_lift (fun _ _ _ _ _ _ _ _ _ _ _ _ _ _ _ _ b ad _ _ _ hC _ _ _ k => lv_dup hC.1 hC.2.1 hd (pm_cat b ad v) k) kk
theorem ev_pop {v : PV} (hd : decode M.2.1 pc = .ok (.pop, 1)) (kk : EV X d mc ms M (pc + 1) L S sh mi mr Po) : EV X d mc ms M pc L (v :: S) sh mi mr Po :=
  ev_lift (fun _ _ _ _ _ _ _ _ _ _ _ _ _ _ _ _ b ad _ _ _ hC _ _ _ k => lv_pop hC.1 hC.2.1 hd (pm_cat b ad v) k) kk
theorem ev_goto {off : Int} {tgt : Nat} (hd : decode M.2.1 pc = .ok (.goto off, 3)) (ht : (pc : Int) + off = (tgt : Int)) (kk : EV X d mc ms M tgt L S sh mi mr Po) : EV X d mc ms M pc L S sh mi mr Po :=
  ev_lift (fun _ _ _ _ _ _ _ _ _ _ _ _ _ _ _ _ _ _ _ _ _ hC _ _ _ k => lv_goto hC.1 hC.2.1 hd ht k) kk
end EVS
end
section
section EVB
variable {X : Option (Nat × (Nat → Int32))} {d mc ms : Nat} {M : MD} {pc : Nat} {L : List (Option PV)} {S : List PV} {sh : SH} {mi : MI} {mr : MR} {Po : PO}
theorem ev_if_eq {x : Int32} {off : Int} {tgt : Nat} (hd : decode M.2.1 pc = .ok (.ifCond .eq off, 3)) (ht : (pc : Int) + off = (tgt : Int)) (kt : x = 0 → EV X d mc ms M tgt L S sh mi mr Po) (kf : ¬ x = 0 → EV X d mc ms M (pc + 3) L S sh mi mr Po) : EV X d mc ms M pc L (pv_i x :: S) sh mi mr Po :=
  fun p l e R s mid args below meth c D cA A b Q ad H locs cells slots ls hC hX hR hW hl hr => lv_if_eq hC.1 hC.2.1 hd ht (fun h => kt h p l e R s mid args below meth c D cA A b Q ad H locs cells slots ls hC hX hR hW hl hr) (fun h => kf h p l e R s mid args below meth c D cA A b Q ad H locs cells slots ls hC hX hR hW hl hr)
theorem ev_if_ne {x : Int32} {off : Int} {tgt : Nat} (hd : decode M.2.1 pc = .ok (.ifCond .ne off, 3)) (ht : (pc : Int) + off = (tgt : Int)) (kt : ¬ x = 0 → EV X d mc ms M tgt L S sh mi mr Po) (kf : x = 0 → EV X d mc ms M (pc + 3) L S sh mi mr Po) : EV X d mc ms M pc L (pv_i x :: S) sh mi mr Po :=
  fun p l e R s mid args below meth c D cA A b Q ad H locs cells slots ls hC hX hR hW hl hr => lv_if_ne hC.1 hC.2.1 hd ht (fun h => kt h p l e R s mid args below meth c D cA A b Q ad H locs cells slots ls hC hX hR hW hl hr) (fun h => kf h p l e R s mid args below meth c D cA A b Q ad H locs cells slots ls hC hX hR hW hl hr)
theorem ev_if_lt {x : Int32} {off : Int} {tgt : Nat} (hd : decode M.2.1 pc = .ok (.ifCond .lt off, 3)) (ht : (pc : Int) + off = (tgt : Int)) (kt : x < 0 → EV X d mc ms M tgt L S sh mi mr Po) (kf : ¬ x < 0 → EV X d mc ms M (pc + 3) L S sh mi mr Po) : EV X d mc ms M pc L (pv_i x :: S) sh mi mr Po :=
  fun p l e R s mid args below meth c D cA A b Q ad H locs cells slots ls hC hX hR hW hl hr => lv_if_lt hC.1 hC.2.1 hd ht (fun h => kt h p l e R s mid args below meth c D cA A b Q ad H locs cells slots ls hC hX hR hW hl hr) (fun h => kf h p l e R s mid args below meth c D cA A b Q ad H locs cells slots ls hC hX hR hW hl hr)
theorem ev_if_ge {x : Int32} {off : Int} {tgt : Nat} (hd : decode M.2.1 pc = .ok (.ifCond .ge off, 3)) (ht : (pc : Int) + off = (tgt : Int)) (kt : 0 ≤ x → EV X d mc ms M tgt L S sh mi mr Po) (kf : ¬ 0 ≤ x → EV X d mc ms M (pc + 3) L S sh mi mr Po) : EV X d mc ms M pc L (pv_i x :: S) sh mi mr Po :=
  fun p l e R s mid args below meth c D cA A b Q ad H locs cells slots ls hC hX hR hW hl hr => lv_if_ge hC.1 hC.2.1 hd ht (fun h => kt h p l e R s mid args below meth c D cA A b Q ad H locs cells slots ls hC hX hR hW hl hr) (fun h => kf h p l e R s mid args below meth c D cA A b Q ad H locs cells slots ls hC hX hR hW hl hr)
theorem ev_if_gt {x : Int32} {off : Int} {tgt : Nat} (hd : decode M.2.1 pc = .ok (.ifCond .gt off, 3)) (ht : (pc : Int) + off = (tgt : Int)) (kt : 0 < x → EV X d mc ms M tgt L S sh mi mr Po) (kf : ¬ 0 < x → EV X d mc ms M (pc + 3) L S sh mi mr Po) : EV X d mc ms M pc L (pv_i x :: S) sh mi mr Po :=
  fun p l e R s mid args below meth c D cA A b Q ad H locs cells slots ls hC hX hR hW hl hr => lv_if_gt hC.1 hC.2.1 hd ht (fun h => kt h p l e R s mid args below meth c D cA A b Q ad H locs cells slots ls hC hX hR hW hl hr) (fun h => kf h p l e R s mid args below meth c D cA A b Q ad H locs cells slots ls hC hX hR hW hl hr)
theorem ev_if_le {x : Int32} {off : Int} {tgt : Nat} (hd : decode M.2.1 pc = .ok (.ifCond .le off, 3)) (ht : (pc : Int) + off = (tgt : Int)) (kt : x ≤ 0 → EV X d mc ms M tgt L S sh mi mr Po) (kf : ¬ x ≤ 0 → EV X d mc ms M (pc + 3) L S sh mi mr Po) : EV X d mc ms M pc L (pv_i x :: S) sh mi mr Po :=
  fun p l e R s mid args below meth c D cA A b Q ad H locs cells slots ls hC hX hR hW hl hr => lv_if_le hC.1 hC.2.1 hd ht (fun h => kt h p l e R s mid args below meth c D cA A b Q ad H locs cells slots ls hC hX hR hW hl hr) (fun h => kf h p l e R s mid args below meth c D cA A b Q ad H locs cells slots ls hC hX hR hW hl hr)
theorem ev_icmp_eq {x y : Int32} {off : Int} {tgt : Nat} (hd : decode M.2.1 pc = .ok (.if_icmp .eq off, 3)) (ht : (pc : Int) + off = (tgt : Int)) (kt : x = y → EV X d mc ms M tgt L S sh mi mr Po) (kf : ¬ x = y → EV X d mc ms M (pc + 3) L S sh mi mr Po) : EV X d mc ms M pc L (pv_i y :: pv_i x :: S) sh mi mr Po :=
  fun p l e R s mid args below meth c D cA A b Q ad H locs cells slots ls hC hX hR hW hl hr => lv_icmp_eq hC.1 hC.2.1 hd ht (fun h => kt h p l e R s mid args below meth c D cA A b Q ad H locs cells slots ls hC hX hR hW hl hr) (fun h => kf h p l e R s mid args below meth c D cA A b Q ad H locs cells slots ls hC hX hR hW hl hr)
theorem ev_icmp_ne {x y : Int32} {off : Int} {tgt : Nat} (hd : decode M.2.1 pc = .ok (.if_icmp .ne off, 3)) (ht : (pc : Int) + off = (tgt : Int)) (kt : ¬ x = y → EV X d mc ms M tgt L S sh mi mr Po) (kf : x = y → EV X d mc ms M (pc + 3) L S sh mi mr Po) : EV X d mc ms M pc L (pv_i y :: pv_i x :: S) sh mi mr Po :=
  fun p l e R s mid args below meth c D cA A b Q ad H locs cells slots ls hC hX hR hW hl hr => lv_icmp_ne hC.1 hC.2.1 hd ht (fun h => kt h p l e R s mid args below meth c D cA A b Q ad H locs cells slots ls hC hX hR hW hl hr) (fun h => kf h p l e R s mid args below meth c D cA A b Q ad H locs cells slots ls hC hX hR hW hl hr)
theorem ev_icmp_lt {x y : Int32} {off : Int} {tgt : Nat} (hd : decode M.2.1 pc = .ok (.if_icmp .lt off, 3)) (ht : (pc : Int) + off = (tgt : Int)) (kt : x < y → EV X d mc ms M tgt L S sh mi mr Po) (kf : ¬ x < y → EV X d mc ms M (pc + 3) L S sh mi mr Po) : EV X d mc ms M pc L (pv_i y :: pv_i x :: S) sh mi mr Po :=
  fun p l e R s mid args below meth c D cA A b Q ad H locs cells slots ls hC hX hR hW hl hr => lv_icmp_lt hC.1 hC.2.1 hd ht (fun h => kt h p l e R s mid args below meth c D cA A b Q ad H locs cells slots ls hC hX hR hW hl hr) (fun h => kf h p l e R s mid args below meth c D cA A b Q ad H locs cells slots ls hC hX hR hW hl hr)
theorem ev_icmp_ge {x y : Int32} {off : Int} {tgt : Nat} (hd : decode M.2.1 pc = .ok (.if_icmp .ge off, 3)) (ht : (pc : Int) + off = (tgt : Int)) (kt : y ≤ x → EV X d mc ms M tgt L S sh mi mr Po) (kf : ¬ y ≤ x → EV X d mc ms M (pc + 3) L S sh mi mr Po) : EV X d mc ms M pc L (pv_i y :: pv_i x :: S) sh mi mr Po :=
  fun p l e R s mid args below meth c D cA A b Q ad H locs cells slots ls hC hX hR hW hl hr => lv_icmp_ge hC.1 hC.2.1 hd ht (fun h => kt h p l e R s mid args below meth c D cA A b Q ad H locs cells slots ls hC hX hR hW hl hr) (fun h => kf h p l e R s mid args below meth c D cA A b Q ad H locs cells slots ls hC hX hR hW hl hr)
theorem ev_icmp_gt {x y : Int32} {off : Int} {tgt : Nat} (hd : decode M.2.1 pc = .ok (.if_icmp .gt off, 3)) (ht : (pc : Int) + off = (tgt : Int)) (kt : y < x → EV X d mc ms M tgt L S sh mi mr Po) (kf : ¬ y < x → EV X d mc ms M (pc + 3) L S sh mi mr Po) : EV X d mc ms M pc L (pv_i y :: pv_i x :: S) sh mi mr Po :=
  fun p l e R s mid args below meth c D cA A b Q ad H locs cells slots ls hC hX hR hW hl hr => lv_icmp_gt hC.1 hC.2.1 hd ht (fun h => kt h p l e R s mid args below meth c D cA A b Q ad H locs cells slots ls hC hX hR hW hl hr) (fun h => kf h p l e R s mid args below meth c D cA A b Q ad H locs cells slots ls hC hX hR hW hl hr)
theorem ev_icmp_le {x y : Int32} {off : Int} {tgt : Nat} (hd : decode M.2.1 pc = .ok (.if_icmp .le off, 3)) (ht : (pc : Int) + off = (tgt : Int)) (kt : x ≤ y → EV X d mc ms M tgt L S sh mi mr Po) (kf : ¬ x ≤ y → EV X d mc ms M (pc + 3) L S sh mi mr Po) : EV X d mc ms M pc L (pv_i y :: pv_i x :: S) sh mi mr Po :=
  fun p l e R s mid args below meth c D cA A b Q ad H locs cells slots ls hC hX hR hW hl hr => lv_icmp_le hC.1 hC.2.1 hd ht (fun h => kt h p l e R s mid args below meth c D cA A b Q ad H locs cells slots ls hC hX hR hW hl hr) (fun h => kf h p l e R s mid args below meth c D cA A b Q ad H locs cells slots ls hC hX hR hW hl hr)
theorem ev_ifnull {r : Option Nat} {off : Int} {tgt : Nat} (hd : decode M.2.1 pc = .ok (.ifnull off, 3)) (ht : (pc : Int) + off = (tgt : Int)) (kt : r = none → EV X d mc ms M tgt L S sh mi mr Po) (kf : ∀ k, r = some k → EV X d mc ms M (pc + 3) L S sh mi mr Po) : EV X d mc ms M pc L (pv_q r :: S) sh mi mr Po := by
  cases r with
  | none => exact ev_lift (fun _ _ _ _ _ _ _ _ _ _ _ _ _ _ _ _ _ _ _ _ _ hC _ _ _ k => lv_ifnullN hC.1 hC.2.1 hd ht k) (kt rfl)
  | some r => exact ev_lift (fun _ _ _ _ _ _ _ _ _ _ _ _ _ _ _ _ _ _ _ _ _ hC _ _ _ k => lv_ifnull hC.1 hC.2.1 hd k) (kf r rfl)
theorem ev_ifnonnull {r : Option Nat} {off : Int} {tgt : Nat} (hd : decode M.2.1 pc = .ok (.ifnonnull off, 3)) (ht : (pc : Int) + off = (tgt : Int)) (kt : ∀ k, r = some k → EV X d mc ms M tgt L S sh mi mr Po) (kf : r = none → EV X d mc ms M (pc + 3) L S sh mi mr Po) : EV X d mc ms M pc L (pv_q r :: S) sh mi mr Po := by
  cases r with
  | none => exact ev_lift (fun _ _ _ _ _ _ _ _ _ _ _ _ _ _ _ _ _ _ _ _ _ hC _ _ _ k => lv_ifnonnullN hC.1 hC.2.1 hd k) (kf rfl)
  | some r => exact ev_lift (fun _ _ _ _ _ _ _ _ _ _ _ _ _ _ _ _ _ _ _ _ _ hC _ _ _ k => lv_ifnonnull hC.1 hC.2.1 hd ht k) (kt r rfl)
theorem ev_tableOut {dflt lo hi : Int} {offs : Array Int} {len : Nat} {x : Int32} {tgt : Nat} (hd : decode M.2.1 pc = .ok (.tableswitch dflt lo hi offs, len)) (h : x.toInt < lo ∨ hi < x.toInt) (ht : (pc : Int) + dflt = (tgt : Int)) (kk : EV X d mc ms M tgt L S sh mi mr Po) : EV X d mc ms M pc L (pv_i x :: S) sh mi mr Po :=
  ev_lift (fun _ _ _ _ _ _ _ _ _ _ _ _ _ _ _ _ _ _ _ _ _ hC _ _ _ k => lv_tableOut hC.1 hC.2.1 hd h ht k) kk
theorem ev_tableIn {dflt lo hi : Int} {offs : Array Int} {len : Nat} {x : Int32} {off : Int} {tgt : Nat} (hd : decode M.2.1 pc = .ok (.tableswitch dflt lo hi offs, len)) (h1 : ¬ x.toInt < lo) (h2 : ¬ hi < x.toInt) (ho : offs[(x.toInt - lo).toNat]? = some off) (ht : (pc : Int) + off = (tgt : Int)) (kk : EV X d mc ms M tgt L S sh mi mr Po) : EV X d mc ms M pc L (pv_i x :: S) sh mi mr Po :=
  ev_lift (fun _ _ _ _ _ _ _ _ _ _ _ _ _ _ _ _ _ _ _ _ _ hC _ _ _ k => lv_tableIn hC.1 hC.2.1 hd h1 h2 ho ht k) kk
theorem ev_lookup {dflt : Int} {ps : Array (Int × Int)} {len : Nat} {x : Int32} {off : Int} {tgt : Nat} (hd : decode M.2.1 pc = .ok (.lookupswitch dflt ps, len)) (hp : (ps.toList.zip (ps.toList.drop 1)).all (fun (a, next) => a.1 < next.1) = true) (ho : Op.lookupswitch.offset ps.toList dflt x.toInt = off) (ht : (pc : Int) + off = (tgt : Int)) (kk : EV X d mc ms M tgt L S sh mi mr Po) : EV X d mc ms M pc L (pv_i x :: S) sh mi mr Po :=
  ev_lift (fun _ _ _ _ _ _ _ _ _ _ _ _ _ _ _ _ _ _ _ _ _ hC _ _ _ k => lv_lookup hC.1 hC.2.1 hd hp ho ht k) kk
theorem ev_istore_n {k : Fin 4} {x : Int32} (hd : decode M.2.1 pc = .ok (.istore_n k, 1)) (hn : (k : Nat) < M.2.2.1) (kk : EV X d mc ms M (pc + 1) (L.set k (some (pv_i x))) S sh mi mr Po) : EV X d mc ms M pc L (pv_i x :: S) sh mi mr Po :=
  fun p l e R s mid args below meth c D cA A b Q ad H locs cells slots ls hC hX hR hW hl hr => lv_istore_n hC.1 hC.2.1 hd rfl (as_has hl) hn rfl (fun ls hl => kk p l e R s mid args below meth c D cA A b Q ad H locs cells slots ls hC hX hR hW (as_set (v := pv_i x) hl) hr)
theorem ev_istore {k : Nat} {x : Int32} (hd : decode M.2.1 pc = .ok (.istore k, 2)) (hn : k < M.2.2.1) (kk : EV X d mc ms M (pc + 2) (L.set k (some (pv_i x))) S sh mi mr Po) : EV X d mc ms M pc L (pv_i x :: S) sh mi mr Po :=
  fun p l e R s mid args below meth c D cA A b Q ad H locs cells slots ls hC hX hR hW hl hr => lv_istore hC.1 hC.2.1 hd (as_has hl) hn rfl (fun ls hl => kk p l e R s mid args below meth c D cA A b Q ad H locs cells slots ls hC hX hR hW (as_set (v := pv_i x) hl) hr)
theorem ev_astore_n {k : Fin 4} {r : Option Nat} (hd : decode M.2.1 pc = .ok (.astore_n k, 1)) (hn : (k : Nat) < M.2.2.1) (kk : EV X d mc ms M (pc + 1) (L.set k (some (pv_q r))) S sh mi mr Po) : EV X d mc ms M pc L (pv_q r :: S) sh mi mr Po := by
  cases r with
  | none => exact fun p l e R s mid args below meth c D cA A b Q ad H locs cells slots ls hC hX hR hW hl hr => lv_astore_nN hC.1 hC.2.1 hd rfl (as_has hl) hn rfl (fun ls hl => kk p l e R s mid args below meth c D cA A b Q ad H locs cells slots ls hC hX hR hW (as_set (v := pv_q none) hl) hr)
  | some r => exact fun p l e R s mid args below meth c D cA A b Q ad H locs cells slots ls hC hX hR hW hl hr => lv_astore_n hC.1 hC.2.1 hd rfl (as_has hl) hn rfl (fun ls hl => kk p l e R s mid args below meth c D cA A b Q ad H locs cells slots ls hC hX hR hW (as_set (v := pv_r r) hl) hr)
theorem ev_astore {k : Nat} {r : Option Nat} (hd : decode M.2.1 pc = .ok (.astore k, 2)) (hn : k < M.2.2.1) (kk : EV X d mc ms M (pc + 2) (L.set k (some (pv_q r))) S sh mi mr Po) : EV X d mc ms M pc L (pv_q r :: S) sh mi mr Po := by
  cases r with
  | none => exact fun p l e R s mid args below meth c D cA A b Q ad H locs cells slots ls hC hX hR hW hl hr => lv_astoreN hC.1 hC.2.1 hd (as_has hl) hn rfl (fun ls hl => kk p l e R s mid args below meth c D cA A b Q ad H locs cells slots ls hC hX hR hW (as_set (v := pv_q none) hl) hr)
  | some r => exact fun p l e R s mid args below meth c D cA A b Q ad H locs cells slots ls hC hX hR hW hl hr => lv_astore hC.1 hC.2.1 hd (as_has hl) hn rfl (fun ls hl => kk p l e R s mid args below meth c D cA A b Q ad H locs cells slots ls hC hX hR hW (as_set (v := pv_r r) hl) hr)
theorem ev_iinc {k : Nat} {n : Int} {x v : Int32} (hd : decode M.2.1 pc = .ok (.iinc k n, 3)) (hl0 : L[k]? = some (some (pv_i x))) (hv : x + Int32.ofInt n = v) (hn : k < M.2.2.1) (kk : EV X d mc ms M (pc + 3) (L.set k (some (pv_i v))) S sh mi mr Po) : EV X d mc ms M pc L S sh mi mr Po :=
  fun p l e R s mid args below meth c D cA A b Q ad H locs cells slots ls hC hX hR hW hl hr => by
    obtain ⟨i, hi⟩ := List.getElem?_of_mem (as_mem (b := b) (ad := ad).mpr ⟨_, hl0, rfl⟩)
    exact lv_iinc hC.1 hC.2.1 hd (as_has hl) (k := i) hi hv hn rfl (fun ls hl => kk p l e R s mid args below meth c D cA A b Q ad H locs cells slots ls hC hX hR hW (as_set (v := pv_i v) hl) hr)
theorem ev_ireturn {x : Int32} {ty : FieldType} (hd : decode M.2.1 pc = .ok (.ireturn, 1)) (ht : M.2.2.2 = some ty) (hn : narrow ty (.int x) = .int x) (hp : Po (some (pv_i x)) sh mi mr) : EV X d mc ms M pc L [pv_i x] sh mi mr Po :=
  fun p l e R s mid args below meth c D cA A b Q ad H locs cells slots ls hC hX hR hW hl hr => hr (some (pv_i x)) sh mi mr ad H locs cells slots pc ls hp ex_rf hW ⟨Nat.le_add_right _ _, Nat.le_add_right _ _⟩ ⟨hd, ty, ht, hn⟩
theorem ev_return (hd : decode M.2.1 pc = .ok (.return_, 1)) (ht : M.2.2.2 = none) (hp : Po none sh mi mr) : EV X d mc ms M pc L [] sh mi mr Po :=
  fun p l e R s mid args below meth c D cA A b Q ad H locs cells slots ls hC hX hR hW hl hr => hr none sh mi mr ad H locs cells slots pc ls hp ex_rf hW ⟨Nat.le_add_right _ _, Nat.le_add_right _ _⟩ ⟨hd, ht⟩
theorem ev_areturn {r : Option Nat} {n : String} (hd : decode M.2.1 pc = .ok (.areturn, 1)) (ht : M.2.2.2 = some (.object n)) (hp : Po (some (pv_q r)) sh mi mr) : EV X d mc ms M pc L [pv_q r] sh mi mr Po :=
  fun p l e R s mid args below meth c D cA A b Q ad H locs cells slots ls hC hX hR hW hl hr => hr (some (pv_q r)) sh mi mr ad H locs cells slots pc ls hp ex_rf hW ⟨Nat.le_add_right _ _, Nat.le_add_right _ _⟩ ⟨hd, n, ht⟩
/-- more room, more frames -/
theorem ev_mono {d2 mc2 ms2 : Nat} (h1 : d ≤ d2) (h2 : mc ≤ mc2) (h3 : ms ≤ ms2) (kk : EV X d mc ms M pc L S sh mi mr Po) : EV X d2 mc2 ms2 M pc L S sh mi mr Po :=
  fun p l e R s mid args below meth c D cA A b Q ad H locs cells slots ls hC hX hR hW hl hr => kk p l e R s mid args below meth c D cA A b Q ad H locs cells slots ls hC hX ⟨by omega, by omega, by omega, by omega⟩ hW hl (fun v sh2 mi2 mr2 ad2 H2 locs2 cells2 slots2 pc2 ls2 a1 a2 a3 a4 a5 => hr v sh2 mi2 mr2 ad2 H2 locs2 cells2 slots2 pc2 ls2 a1 a2 a3 ⟨by omega, by omega⟩ a5)
theorem ev_post {Po2 : PO} (h : ∀ v sh2 mi2 mr2, Po v sh2 mi2 mr2 → Po2 v sh2 mi2 mr2) (kk : EV X d mc ms M pc L S sh mi mr Po) : EV X d mc ms M pc L S sh mi mr Po2 :=
  fun p l e R s mid args below meth c D cA A b Q ad H locs cells slots ls hC hX hR hW hl hr => kk p l e R s mid args below meth c D cA A b Q ad H locs cells slots ls hC hX hR hW hl (fun v sh2 mi2 mr2 ad2 H2 locs2 cells2 slots2 pc2 ls2 a1 a2 a3 a4 a5 => hr v sh2 mi2 mr2 ad2 H2 locs2 cells2 slots2 pc2 ls2 (h v sh2 mi2 mr2 a1) a2 a3 a4 a5)
/-- fewer locals -/
theorem ev_loc {L2 : List (Option PV)} (h : ∀ (k : Nat) (v : PV), L2[k]? = some (some v) → L[k]? = some (some v)) (kk : EV X d mc ms M pc L2 S sh mi mr Po) : EV X d mc ms M pc L S sh mi mr Po :=
  fun p l e R s mid args below meth c D cA A b Q ad H locs cells slots ls hC hX hR hW hl hr => kk p l e R s mid args below meth c D cA A b Q ad H locs cells slots ls hC hX hR hW ⟨hl.1, hl.2.1, fun k v hk => hl.2.2 k v (h k v hk)⟩ hr
end EVB
end
section
def cl_R (ci : Nat) : String := match ci with
  | 0 => RX0
  | 1 => RX1
  | 2 => RX2
  | 3 => RX3
  | 4 => RX4
  | 5 => RX5
  | _ => RX6
def cl_T (ci : Nat) : u_T := match ci with
  | 0 => TX0
  | 1 => TX1
  | 2 => TX2
  | 3 => TX3
  | 4 => TX4
  | 5 => TX5
  | _ => TX6
theorem cl_cl : ∀ ci, ci < 7 → vwCl[ci]? = some (cl_R ci, cl_T ci, cl_n ci) := by
  intro ci h
  match ci, h with
  | 0, _ => rfl
  | 1, _ => rfl
  | 2, _ => rfl
  | 3, _ => rfl
  | 4, _ => rfl
  | 5, _ => rfl
  | 6, _ => rfl
  | n + 7, h => omega
set_option maxRecDepth 100000 in
theorem cl_in0 : ∀ w ∈ u_ws RX0 TX0 11, w ∈ tb_w := by decide +kernel
set_option maxRecDepth 100000 in
theorem cl_in1 : ∀ w ∈ u_ws RX1 TX1 8, w ∈ tb_w := by decide +kernel
set_option maxRecDepth 100000 in
theorem cl_in2 : ∀ w ∈ u_ws RX2 TX2 12, w ∈ tb_w := by decide +kernel
set_option maxRecDepth 100000 in
theorem cl_in3 : ∀ w ∈ u_ws RX3 TX3 6, w ∈ tb_w := by decide +kernel
set_option maxRecDepth 100000 in
theorem cl_in4 : ∀ w ∈ u_ws RX4 TX4 12, w ∈ tb_w := by decide +kernel
set_option maxRecDepth 100000 in
theorem cl_in5 : ∀ w ∈ u_ws RX5 TX5 8, w ∈ tb_w := by decide +kernel
set_option maxRecDepth 100000 in
theorem cl_in6 : ∀ w ∈ u_ws RX6 TX6 47, w ∈ tb_w := by decide +kernel
theorem cl_in : ∀ ci, ci < 7 → ∀ w ∈ u_ws (cl_R ci) (cl_T ci) (cl_n ci), w ∈ tb_w := by
  intro ci h
  match ci, h with
  | 0, _ => exact cl_in0
  | 1, _ => exact cl_in1
  | 2, _ => exact cl_in2
  | 3, _ => exact cl_in3
  | 4, _ => exact cl_in4
  | 5, _ => exact cl_in5
  | 6, _ => exact cl_in6
  | n + 7, h => omega
theorem cl_tyok : ∀ ci, ci < 7 → ∀ k, k < cl_n ci → parseFieldDescriptor (cl_T ci k).2.2.1 = some (cl_ty ci k) := by
  intro ci h
  match ci, h with
  | 0, _ => exact tyX0_ok
  | 1, _ => exact tyX1_ok
  | 2, _ => exact tyX2_ok
  | 3, _ => exact tyX3_ok
  | 4, _ => exact tyX4_ok
  | 5, _ => exact tyX5_ok
  | 6, _ => exact tyX6_ok
  | n + 7, h => omega
theorem cl_nm : ∀ ci, ci < 7 → ∀ a, a < cl_n ci → ∀ b, b < cl_n ci → a ≠ b → (cl_T ci a).2.1 ≠ (cl_T ci b).2.1 := by
  intro ci h
  match ci, h with
  | 0, _ => exact nmX0
  | 1, _ => exact nmX1
  | 2, _ => exact nmX2
  | 3, _ => exact nmX3
  | 4, _ => exact nmX4
  | 5, _ => exact nmX5
  | 6, _ => exact nmX6
  | n + 7, h => omega
/-- a field that an instruction names -/
def fl_c (own : String) (idx ci j : Nat) : Prop := ci < 7 ∧ j < cl_n ci ∧ Cond.fieldLink own idx (cl_T ci j).1 (cl_T ci j).2.1 (cl_T ci j).2.2.1 ∈ tb_w
theorem cl_int {t : FieldType} (h : cl_rf t = false) : t = .int := by
  cases t <;> first | rfl | cases h
theorem ty_at {cA : Nat → ClassId} {t : Nat} (h : t < 4) : (ce_tys cA)[t]? = some (cA t, ce_ty t) := by
  match t, h with
  | 0, _ => rfl
  | 1, _ => rfl
  | 2, _ => rfl
  | 3, _ => rfl
  | n + 4, h => omega
theorem ce_fs_set {ad : Nat → Nat} {mi mi2 : MI} {mr mr2 : MR} {k ci j : Nat} {v : Value} (hv : ce_v ad mi2 mr2 k ci j = v) (ho : ∀ i, i ≠ j → ce_v ad mi2 mr2 k ci i = ce_v ad mi mr k ci i) : (ce_fs ad mi mr k ci).set j v = ce_fs ad mi2 mr2 k ci := by
  apply List.ext_getElem?
  intro i
  by_cases hn : i < cl_n ci
  · rw [ce_fs_at hn]
    by_cases hi : i = j
    · subst hi
      rw [List.getElem?_set_self (by rw [ce_fs_len]; exact hn), hv]
    · rw [List.getElem?_set_ne (Ne.symm hi), ce_fs_at hn, ho i hi]
  · rw [List.getElem?_eq_none (by simp [ce_fs_len]; omega), List.getElem?_eq_none (by rw [ce_fs_len]; omega)]
theorem ce_put_i {cA : Nat → ClassId} {ad : Nat → Nat} {sh : SH} {mi : MI} {mr : MR} {k ci j : Nat} {x : Int32} (hs : sh[k]? = some (.inl ci)) (hr : cl_ref ci j = false) : (ce_ws cA ad sh mi mr).set k (ad k, .inr (ci, (ce_fs ad mi mr k ci).set j (.int x))) = ce_ws cA ad sh (up_2 mi k j x) mr := by
  refine ce_set hs (fun i hi => up_2_row hi) (fun i hi => rfl) ?_
  simp only [ce_at]
  rw [ce_fs_set (mi2 := up_2 mi k j x) (mr2 := mr)]
  · simp [ce_v, hr, up_2]
  · intro i hi
    simp [ce_v, up_2, hi]
theorem ce_put_q {cA : Nat → ClassId} {ad : Nat → Nat} {sh : SH} {mi : MI} {mr : MR} {k ci j : Nat} {r : Option Nat} (hs : sh[k]? = some (.inl ci)) (hr : cl_ref ci j = true) : (ce_ws cA ad sh mi mr).set k (ad k, .inr (ci, (ce_fs ad mi mr k ci).set j (va_rf (r.map ad)))) = ce_ws cA ad sh mi (up_2 mr k j r) := by
  refine ce_set hs (fun i hi => rfl) (fun i hi => up_2_row hi) ?_
  simp only [ce_at]
  rw [ce_fs_set (mi2 := mi) (mr2 := up_2 mr k j r)]
  · simp [ce_v, hr, up_2]
  · intro i hi
    simp [ce_v, up_2, hi]
theorem ce_st_i {cA : Nat → ClassId} {ad : Nat → Nat} {sh : SH} {mi : MI} {mr : MR} {k t n j : Nat} {x : Int32} (hs : sh[k]? = some (.inr (t, n))) (ht : t < 2) : (ce_ws cA ad sh mi mr).set k (ad k, .inl (cA t, n, .inl (upd (mi k) j x))) = ce_ws cA ad sh (up_2 mi k j x) mr := by
  refine ce_set hs (fun i hi => up_2_row hi) (fun i hi => rfl) ?_
  have hu : upd (mi k) j x = up_2 mi k j x k := by
    funext i
    simp [upd, up_2]
  rw [hu]
  match t, ht with
  | 0, _ => rfl
  | 1, _ => rfl
theorem ce_st_q {cA : Nat → ClassId} {ad : Nat → Nat} {sh : SH} {mi : MI} {mr : MR} {k t n j : Nat} {v : Nat} (hs : sh[k]? = some (.inr (t + 2, n))) : (ce_ws cA ad sh mi mr).set k (ad k, .inl (cA (t + 2), n, .inr (.inr (.inr (.inr (va_up (fun j => (mr k j).map ad) j (some (ad v)))))))) = ce_ws cA ad sh mi (up_2 mr k j (some v)) := by
  refine ce_set hs (fun i hi => rfl) (fun i hi => up_2_row hi) ?_
  have hu : va_up (fun j => (mr k j).map ad) j (some (ad v)) = fun i => (up_2 mr k j (some v) k i).map ad := by
    funext i
    by_cases hi : i = j
    · simp [va_up, up_2, hi]
    · simp [va_up, up_2, hi]
  rw [hu]
  rfl
theorem in_nI {i : Int32} {j n : Nat} (hi : i = nI j) (hj : j < n) (hn : n < 2 ^ 31) : vp_in i n ∧ i.toNatClampNeg = j := by
  subst hi
  exact ⟨vp_in_nI hj hn, nI_clamp (by omega)⟩
/-- references that are in range -/
def ok_v (n : Nat) (v : PV) : Prop := match v with
  | .inr (.inl (some k)) => k < n
  | _ => True
def ok_s (n : Nat) (S : List PV) : Prop := ∀ v ∈ S, ok_v n v
def ok_l (n : Nat) (L : List (Option PV)) : Prop := ∀ (k : Nat) (v : PV), L[k]? = some (some v) → ok_v n v
def ok_m (n : Nat) (mr : MR) : Prop := ∀ k j r, mr k j = some r → r < n
theorem pm_ok {n b : Nat} {ad ad2 : Nat → Nat} {v : PV} (h : ∀ i, i < n → ad2 i = ad i) (hv : ok_v n v) : pm_v b ad2 v = pm_v b ad v := by
  rcases v with x | (_ | r) | x
  · rfl
  · rfl
  · simp only [pm_v, Option.map_some]
    rw [h r hv]
  · rfl
theorem ps_ok {n b : Nat} {ad ad2 : Nat → Nat} {S : List PV} (h : ∀ i, i < n → ad2 i = ad i) (hv : ok_s n S) : S.map (pm_v b ad2) = S.map (pm_v b ad) := List.map_congr_left (fun v hm => pm_ok h (hv v hm))
theorem pl_ok {n b m : Nat} {ad ad2 : Nat → Nat} {L : List (Option PV)} {ls : Array Slot} (h : ∀ i, i < n → ad2 i = ad i) (hv : ok_l n L) (hl : lh_c ls m b ad L) : lh_c ls m b ad2 L := ⟨hl.1, hl.2.1, fun k v hk => by rw [pm_ok h (hv k v hk)]; exact hl.2.2 k v hk⟩
theorem ce_ok {n : Nat} {cA : Nat → ClassId} {ad ad2 : Nat → Nat} {mi : MI} {mr : MR} {k : Nat} {s : Nat ⊕ (Nat × Nat)} (h : ∀ i, i < n → ad2 i = ad i) (hm : ok_m n mr) : ce_at cA ad2 mi mr k s = ce_at cA ad mi mr k s := by
  have hq : ∀ j, (mr k j).map ad2 = (mr k j).map ad := by
    intro j
    cases hr : mr k j with
    | none => rfl
    | some r => simp [h r (hm k j r hr)]
  rcases s with ci | ⟨t, m⟩
  · simp only [ce_at, ce_fs]
    congr 2
    refine List.map_congr_left (fun j _ => ?_)
    simp [ce_v, hq]
  · simp only [ce_at, ce_ar, hq]
/-- a cell more -/
theorem ce_push {cA : Nat → ClassId} {ad : Nat → Nat} {sh : SH} {mi : MI} {mr : MR} {s : Nat ⊕ (Nat × Nat)} {q : Nat} {w : va_E} (hm : ok_m sh.length mr) (hw : w = ce_at cA ad mi mr sh.length s) : ce_ws cA ad sh mi mr ++ [(q, w)] = ce_ws cA (va_up ad sh.length q) (sh ++ [s]) mi mr := by
  have h : ∀ i, i < sh.length → va_up ad sh.length q i = ad i := fun i hi => by simp [va_up, Nat.ne_of_lt hi]
  subst hw
  apply List.ext_getElem?
  intro i
  simp only [ce_ws, List.getElem?_mapIdx]
  by_cases hi : i < sh.length
  · rw [List.getElem?_append_left (by simpa using hi), List.getElem?_append_left hi]
    simp only [List.getElem?_mapIdx]
    have hs : sh[i]? = some sh[i] := List.getElem?_eq_getElem hi
    rw [hs]
    simp [h i hi, ce_ok (cA := cA) (mi := mi) h hm]
  · by_cases he : i = sh.length
    · subst he
      simp [va_up, ce_ok (cA := cA) (mi := mi) h hm]
    · rw [List.getElem?_eq_none (by simp; omega), List.getElem?_eq_none (by simp; omega)]
      rfl
theorem ex_push {sh : SH} {ad : Nat → Nat} {s : Nat ⊕ (Nat × Nat)} {q : Nat} : ex_c sh ad (sh ++ [s]) (va_up ad sh.length q) :=
  ⟨by simp, fun i hi => by simp [va_up, Nat.ne_of_lt hi], fun h => by simp at h⟩
theorem st_sum {b : Nat} {ad : Nat → Nat} {S : List PV} : ((S.map (pm_v b ad)).map fun v => v.category).sum = S.length := by
  induction S with
  | nil => rfl
  | cons v S ih =>
    simp only [List.map_cons, List.sum_cons, List.length_cons, pm_cat]
    rw [ih]
    omega
section EVH
variable {X : Option (Nat × (Nat → Int32))} {d mc ms : Nat} {M : MD} {pc : Nat} {L : List (Option PV)} {S : List PV} {sh : SH} {mi : MI} {mr : MR} {Po : PO}
theorem ev_geti {k ci j idx : Nat} (hd : decode M.2.1 pc = .ok (.getfield idx, 3)) (hf : fl_c M.1.cls idx ci j) (hr : cl_ref ci j = false) (hs : sh[k]? = some (.inl ci)) (kk : EV X d mc ms M (pc + 3) L (pv_i (mi k j) :: S) sh mi mr Po) : EV X d mc ms M pc L (pv_r k :: S) sh mi mr Po :=
  ev_lift (fun _ _ _ _ _ _ _ _ _ _ _ _ _ _ _ _ _ _ _ _ _ hC _ hW _ kk => va_get hC.1 hC.2.1 hC.2.2.2.2.2.1 (cl_in ci hf.1) hC.2.2.2.2.1 hC.2.2.2.2.2.2.2.2.1.1 hW.1 k (ce_get hs) (cl_cl ci hf.1) j hf.2.1 (hC.2.2.2.2.2.1 _ hf.2.2) (fun _ h => h) (by rw [ce_fs_at hf.2.1]; simp only [ce_v, hr]; rfl) hd kk) kk
theorem ev_getq {k ci j idx : Nat} (hd : decode M.2.1 pc = .ok (.getfield idx, 3)) (hf : fl_c M.1.cls idx ci j) (hr : cl_ref ci j = true) (hs : sh[k]? = some (.inl ci)) {r : Option Nat} (hq : mr k j = r) (kk : EV X d mc ms M (pc + 3) L (pv_q r :: S) sh mi mr Po) : EV X d mc ms M pc L (pv_r k :: S) sh mi mr Po :=
  ev_lift (fun _ _ _ _ _ _ _ _ _ _ _ _ _ _ _ _ _ ad _ _ _ hC _ hW _ kk => va_get hC.1 hC.2.1 hC.2.2.2.2.2.1 (cl_in ci hf.1) hC.2.2.2.2.1 hC.2.2.2.2.2.2.2.2.1.1 hW.1 k (ce_get hs) (cl_cl ci hf.1) j hf.2.1 (hC.2.2.2.2.2.1 _ hf.2.2) (fun _ h => h) (v := va_rf (r.map ad)) (by rw [ce_fs_at hf.2.1]; simp only [ce_v, hr, hq]; rfl) hd kk) kk
theorem ev_puti {k ci j idx : Nat} {x : Int32} (hd : decode M.2.1 pc = .ok (.putfield idx, 3)) (hf : fl_c M.1.cls idx ci j) (hr : cl_ref ci j = false) (hfin : (cl_T ci j).2.2.2 = false) (hs : sh[k]? = some (.inl ci)) (kk : EV X d mc ms M (pc + 3) L S sh (up_2 mi k j x) mr Po) : EV X d mc ms M pc L (pv_i x :: pv_r k :: S) sh mi mr Po := by
  intro p l e R s mid args below meth c D cA A b Q ad H locs cells slots ls hC hX hR hW hl hr2
  have hty : cl_ty ci j = .int := cl_int hr
  refine va_put (ty := .int) (v := .int x) hC.1 hC.2.1 hC.2.2.2.2.2.1 (cl_in ci hf.1) (cl_ty ci) (cl_tyok ci hf.1) (cl_nm ci hf.1) hC.2.2.2.2.1 hC.2.2.2.2.2.2.2.2.1.1 hW.1 hW.2.1 hW.2.2 k (ce_get hs) (cl_cl ci hf.1) j hf.2.1 (hC.2.2.2.2.2.1 _ hf.2.2) (fun _ h => h) hfin (by rw [cl_tyok ci hf.1 j hf.2.1, hty]) rfl rfl (by rw [ce_fs_len]; exact hf.2.1) hd (fun H1 locs1 hP hD hS => ?_)
  rw [ce_put_i hs hr] at hP hD
  exact kk p l e R s mid args below meth c D cA A b Q ad H1 locs1 cells slots ls hC hX hR ⟨hP, hD, hS⟩ hl hr2
theorem ev_putFi {k ci j idx : Nat} {x : Int32} (hd : decode M.2.1 pc = .ok (.putfield idx, 3)) (hf : fl_c M.1.cls idx ci j) (hr : cl_ref ci j = false) (hfin : (cl_T ci j).2.2.2 = true) (hin : M.1.name = "<init>") (ho : (cl_T ci j).1 = M.1.cls) (hs : sh[k]? = some (.inl ci)) (kk : EV X d mc ms M (pc + 3) L S sh (up_2 mi k j x) mr Po) : EV X d mc ms M pc L (pv_i x :: pv_r k :: S) sh mi mr Po := by
  intro p l e R s mid args below meth c D cA A b Q ad H locs cells slots ls hC hX hR hW hl hr2
  have hty : cl_ty ci j = .int := cl_int hr
  refine va_putF (ty := .int) (v := .int x) hC.1 hC.2.1 hC.2.2.2.2.2.1 (cl_in ci hf.1) (cl_ty ci) (cl_tyok ci hf.1) (cl_nm ci hf.1) hC.2.2.2.2.1 hC.2.2.2.2.2.2.2.2.1.1 hW.1 hW.2.1 hW.2.2 k (ce_get hs) (cl_cl ci hf.1) j hf.2.1 (hC.2.2.2.2.2.1 _ hf.2.2) (fun _ h => h) hfin (hC.2.2.2.2.2.2.2.1 hin) ho (by rw [cl_tyok ci hf.1 j hf.2.1, hty]) rfl rfl (by rw [ce_fs_len]; exact hf.2.1) hd (fun H1 locs1 hP hD hS => ?_)
  rw [ce_put_i hs hr] at hP hD
  exact kk p l e R s mid args below meth c D cA A b Q ad H1 locs1 cells slots ls hC hX hR ⟨hP, hD, hS⟩ hl hr2
theorem ev_putFq {k ci j idx : Nat} {r : Nat} (hd : decode M.2.1 pc = .ok (.putfield idx, 3)) (hf : fl_c M.1.cls idx ci j) (hr : cl_ref ci j = true) (hn : ∀ a, narrow (cl_ty ci j) (.ref a) = .ref a) (hfit : ∀ a, fits (cl_ty ci j) (.ref a) = true) (hfin : (cl_T ci j).2.2.2 = true) (hin : M.1.name = "<init>") (ho : (cl_T ci j).1 = M.1.cls) (hs : sh[k]? = some (.inl ci)) (kk : EV X d mc ms M (pc + 3) L S sh mi (up_2 mr k j (some r)) Po) : EV X d mc ms M pc L (pv_r r :: pv_r k :: S) sh mi mr Po := by
  intro p l e R s mid args below meth c D cA A b Q ad H locs cells slots ls hC hX hR hW hl hr2
  refine va_putF (ty := cl_ty ci j) (v := .ref (ad r)) hC.1 hC.2.1 hC.2.2.2.2.2.1 (cl_in ci hf.1) (cl_ty ci) (cl_tyok ci hf.1) (cl_nm ci hf.1) hC.2.2.2.2.1 hC.2.2.2.2.2.2.2.2.1.1 hW.1 hW.2.1 hW.2.2 k (ce_get hs) (cl_cl ci hf.1) j hf.2.1 (hC.2.2.2.2.2.1 _ hf.2.2) (fun _ h => h) hfin (hC.2.2.2.2.2.2.2.1 hin) ho (cl_tyok ci hf.1 j hf.2.1) (hn _) (hfit _) (by rw [ce_fs_len]; exact hf.2.1) hd (fun H1 locs1 hP hD hS => ?_)
  have he := ce_put_q (cA := cA) (ad := ad) (mi := mi) (mr := mr) (r := some r) hs hr
  rw [show va_rf ((some r).map ad) = Value.ref (ad r) from rfl] at he
  rw [he] at hP hD
  exact kk p l e R s mid args below meth c D cA A b Q ad H1 locs1 cells slots ls hC hX hR ⟨hP, hD, hS⟩ hl hr2
theorem ev_iald {k n j : Nat} {i : Int32} (hd : decode M.2.1 pc = .ok (.iaload, 1)) (hs : sh[k]? = some (.inr (0, n))) (hi : i = nI j) (hj : j < n) (hn : n < 2 ^ 31) (kk : EV X d mc ms M (pc + 1) L (pv_i (mi k j) :: S) sh mi mr Po) : EV X d mc ms M pc L (pv_i i :: pv_r k :: S) sh mi mr Po := by
  obtain ⟨h1, h2⟩ := in_nI hi hj hn
  subst h2
  exact ev_lift (fun _ _ _ _ _ _ _ _ _ _ _ _ _ _ _ _ _ _ _ _ _ hC _ hW _ kk => va_iald hC.1 hC.2.1 hC.2.2.2.2.2.2.2.2.1.1 hW.1 k 0 (ce_get hs) rfl h1 hd kk) kk
theorem ev_zald {k n j : Nat} {i : Int32} (hd : decode M.2.1 pc = .ok (.baload, 1)) (hs : sh[k]? = some (.inr (1, n))) (hi : i = nI j) (hj : j < n) (hn : n < 2 ^ 31) (kk : EV X d mc ms M (pc + 1) L (pv_i (mi k j) :: S) sh mi mr Po) : EV X d mc ms M pc L (pv_i i :: pv_r k :: S) sh mi mr Po := by
  obtain ⟨h1, h2⟩ := in_nI hi hj hn
  subst h2
  exact ev_lift (fun _ _ _ _ _ _ _ _ _ _ _ _ _ _ _ _ _ _ _ _ _ hC _ hW _ kk => va_zald hC.1 hC.2.1 hC.2.2.2.2.2.2.2.2.1.1 hW.1 k 1 (ce_get hs) rfl h1 hd kk) kk
theorem ev_aald {k n j t : Nat} {i : Int32} {C : String} (hd : decode M.2.1 pc = .ok (.aaload, 1)) (hs : sh[k]? = some (.inr (t + 2, n))) (ht : t + 2 < 4) (hC2 : ce_ty (t + 2) = .object C) (hi : i = nI j) (hj : j < n) (hn : n < 2 ^ 31) (kk : EV X d mc ms M (pc + 1) L (pv_q (mr k j) :: S) sh mi mr Po) : EV X d mc ms M pc L (pv_i i :: pv_r k :: S) sh mi mr Po := by
  obtain ⟨h1, h2⟩ := in_nI hi hj hn
  subst h2
  exact ev_lift (fun _ _ _ _ _ _ _ _ _ _ _ _ _ _ _ _ _ _ _ _ _ hC _ hW _ kk => va_aldq hC.1 hC.2.1 hC.2.2.2.2.2.2.2.2.1.1 hW.1 k (t + 2) (ce_get hs) (by rw [← hC2]; exact ty_at ht) h1 hd kk) kk
theorem ev_alen {k n t : Nat} (hd : decode M.2.1 pc = .ok (.arraylength, 1)) (hs : sh[k]? = some (.inr (t, n))) (ht : t < 4) (kk : EV X d mc ms M (pc + 1) L (pv_i (nI n) :: S) sh mi mr Po) : EV X d mc ms M pc L (pv_r k :: S) sh mi mr Po :=
  ev_lift (fun _ _ _ _ _ _ _ _ _ _ _ _ _ _ _ _ _ _ _ _ _ hC _ hW _ kk => va_alen hC.1 hC.2.1 hC.2.2.2.2.2.2.2.2.1.1 hW.1 k t (ce_get hs) (ty_at ht) rfl hd kk) kk
theorem ev_iast {k n j : Nat} {i x : Int32} (hd : decode M.2.1 pc = .ok (.iastore, 1)) (hs : sh[k]? = some (.inr (0, n))) (hi : i = nI j) (hj : j < n) (hn : n < 2 ^ 31) (kk : EV X d mc ms M (pc + 1) L S sh (up_2 mi k j x) mr Po) : EV X d mc ms M pc L (pv_i x :: pv_i i :: pv_r k :: S) sh mi mr Po := by
  obtain ⟨h1, h2⟩ := in_nI hi hj hn
  subst h2
  intro p l e R s mid args below meth c D cA A b Q ad H locs cells slots ls hC hX hR hW hl hr2
  refine va_iast hC.1 hC.2.1 hC.2.2.2.2.2.2.2.2.1.1 hW.1 hW.2.1 hW.2.2 k 0 (ce_get hs) rfl h1 hd (fun H1 locs1 hP hD hS => ?_)
  rw [ce_st_i hs (by decide)] at hP hD
  exact kk p l e R s mid args below meth c D cA A b Q ad H1 locs1 cells slots ls hC hX hR ⟨hP, hD, hS⟩ hl hr2
theorem ev_zast {k n j : Nat} {i x : Int32} (hd : decode M.2.1 pc = .ok (.bastore, 1)) (hs : sh[k]? = some (.inr (1, n))) (hi : i = nI j) (hj : j < n) (hn : n < 2 ^ 31) (hx : vp_nar .boolean x = x) (kk : EV X d mc ms M (pc + 1) L S sh (up_2 mi k j x) mr Po) : EV X d mc ms M pc L (pv_i x :: pv_i i :: pv_r k :: S) sh mi mr Po := by
  obtain ⟨h1, h2⟩ := in_nI hi hj hn
  subst h2
  intro p l e R s mid args below meth c D cA A b Q ad H locs cells slots ls hC hX hR hW hl hr2
  refine va_zast hC.1 hC.2.1 hC.2.2.2.2.2.2.2.2.1.1 hW.1 hW.2.1 hW.2.2 k 1 (ce_get hs) rfl h1 hd (fun H1 locs1 hP hD hS => ?_)
  rw [hx, ce_st_i hs (by decide)] at hP hD
  exact kk p l e R s mid args below meth c D cA A b Q ad H1 locs1 cells slots ls hC hX hR ⟨hP, hD, hS⟩ hl hr2
theorem ev_aast {k n j t v ci : Nat} {i : Int32} (hd : decode M.2.1 pc = .ok (.aastore, 1)) (hs : sh[k]? = some (.inr (t + 2, n))) (ht : t + 2 < 4) (hv : sh[v]? = some (.inl ci)) (hci : ci < 7) (hC2 : ce_ty (t + 2) = .object (cl_R ci)) (hi : i = nI j) (hj : j < n) (hn : n < 2 ^ 31) (kk : EV X d mc ms M (pc + 1) L S sh mi (up_2 mr k j (some v)) Po) : EV X d mc ms M pc L (pv_r v :: pv_i i :: pv_r k :: S) sh mi mr Po := by
  obtain ⟨h1, h2⟩ := in_nI hi hj hn
  subst h2
  intro p l e R s mid args below meth c D cA A b Q ad H locs cells slots ls hC hX hR hW hl hr2
  refine va_astq (r := (cl_R ci, cl_T ci, cl_n ci)) hC.1 hC.2.1 hC.2.2.2.2.2.2.2.2.1.1 hW.1 hW.2.1 hW.2.2 k (t + 2) v ci (ce_get hs) (by rw [← hC2]; exact ty_at ht) (ce_get hv) (cl_cl ci hci) h1 hd (fun H1 locs1 hP hD hS => ?_)
  rw [ce_st_q hs] at hP hD
  exact kk p l e R s mid args below meth c D cA A b Q ad H1 locs1 cells slots ls hC hX hR ⟨hP, hD, hS⟩ hl hr2
theorem ev_slen {n : Nat} {xs : Nat → Int32} (hd : decode M.2.1 pc = .ok (.arraylength, 1)) (kk : EV (some (n, xs)) d mc ms M (pc + 1) L (pv_i (nI n) :: S) sh mi mr Po) : EV (some (n, xs)) d mc ms M pc L (pv_s :: S) sh mi mr Po :=
  ev_lift (fun _ _ _ _ _ _ _ _ _ _ _ _ _ _ _ _ _ _ _ _ _ hC hX hW _ kk => va_slen hC.1 hC.2.1 (hX n xs rfl).1 (hX n xs rfl).2.1 (hX n xs rfl).2.2 hW.2.2 hd kk) kk
theorem ev_sld {n j : Nat} {xs : Nat → Int32} {i : Int32} (hd : decode M.2.1 pc = .ok (.iaload, 1)) (hi : i = nI j) (hj : j < n) (hn : n < 2 ^ 31) (kk : EV (some (n, xs)) d mc ms M (pc + 1) L (pv_i (xs j) :: S) sh mi mr Po) : EV (some (n, xs)) d mc ms M pc L (pv_i i :: pv_s :: S) sh mi mr Po := by
  obtain ⟨h1, h2⟩ := in_nI hi hj hn
  subst h2
  exact ev_lift (fun _ _ _ _ _ _ _ _ _ _ _ _ _ _ _ _ _ _ _ _ _ hC hX hW _ kk => va_sld hC.1 hC.2.1 (hX n xs rfl).1 (hX n xs rfl).2.1 (hX n xs rfl).2.2 hW.2.2 h1 hd kk) kk
theorem ev_new {ci idx mc1 ms1 : Nat} (hd : decode M.2.1 pc = .ok (.new idx, 3)) (hci : ci < 7) (hw1 : Cond.classLink M.1.cls idx (cl_R ci) ∈ tb_w) (hw2 : Cond.instantiable (cl_R ci) (cl_n ci) ∈ tb_w) (hw3 : Cond.initialized (cl_R ci) ∈ tb_w) (hS : ok_s sh.length S) (hL : ok_l sh.length L) (hm : ok_m sh.length mr) (hz : ∀ j, mi sh.length j = 0) (hzr : ∀ j, mr sh.length j = none) (hmc : mc1 + 1 = mc) (hms : ms1 + cl_n ci = ms) (hdv : ∀ j, j < cl_n ci → defaultValue (cl_ty ci j) = if cl_ref ci j = true then .null else .int 0)
    (kk : EV X d mc1 ms1 M (pc + 3) L (pv_r sh.length :: S) (sh ++ [.inl ci]) mi mr Po) : EV X d mc ms M pc L S sh mi mr Po := by
  subst hmc; subst hms
  intro p l e R s mid args below meth c D cA A b Q ad H locs cells slots ls hC hX hR hW hl hr2
  refine va_new (fs := ce_fs ad mi mr sh.length ci) hC.1 hC.2.1 hC.2.2.2.2.2.1 (cl_in ci hci) (cl_ty ci) (cl_tyok ci hci) hC.2.2.2.2.1 (hC.2.2.2.2.2.1 _ hw1) (hC.2.2.2.2.2.1 _ hw2) (hC.2.2.2.2.2.1 _ hw3) hC.2.2.2.2.2.2.2.2.1.1 hW.1 hW.2.1 hW.2.2 hC.2.2.2.2.2.2.2.2.2 (cl_cl ci hci) (fun j hj => ?_) (by omega) (by omega) hd (fun q H1 hP hD hS1 => ?_)
  · rw [hdv j hj]
    simp only [vp_V, List.getD, ce_fs_at hj, Option.getD_some, ce_v, hz, hzr]
    rfl
  · rw [ce_push (w := .inr (ci, ce_fs ad mi mr sh.length ci)) (s := .inl ci) hm rfl] at hP hD
    have h : ∀ i, i < sh.length → va_up ad sh.length q i = ad i := fun i hi => by simp [va_up, Nat.ne_of_lt hi]
    have := kk p l e R s mid args below meth c D cA A b Q (va_up ad sh.length q) H1 locs (cells + 1) (slots + cl_n ci) ls hC hX ⟨hR.1, hR.2.1, by omega, by omega⟩ ⟨hP, hD, hS1⟩ (pl_ok h hL hl) (fun v sh2 mi2 mr2 ad2 H2 locs2 cells2 slots2 pc2 ls2 a1 a2 a3 a4 a5 => hr2 v sh2 mi2 mr2 ad2 H2 locs2 cells2 slots2 pc2 ls2 a1 (ex_tr ex_push a2) a3 ⟨by omega, by omega⟩ a5)
    rw [List.map_cons, ps_ok h hS] at this
    have e1 : pm_v b (va_up ad sh.length q) (pv_r sh.length) = Value.ref q := by simp [pm_v, va_up, va_rf]
    rw [e1] at this
    exact this
theorem ev_newi {N mc1 ms1 : Nat} {n : Int32} (hd : decode M.2.1 pc = .ok (.newarray .int, 2)) (hw : Cond.arrayClass .int ∈ tb_w) (hn : n = nI N) (hN : N < 4096) (hS : ok_s sh.length S) (hL : ok_l sh.length L) (hm : ok_m sh.length mr) (hz : ∀ j, mi sh.length j = 0) (hmc : mc1 + 1 = mc) (hms : ms1 + N = ms)
    (kk : EV X d mc1 ms1 M (pc + 2) L (pv_r sh.length :: S) (sh ++ [.inr (0, N)]) mi mr Po) : EV X d mc ms M pc L (pv_i n :: S) sh mi mr Po := by
  subst hmc; subst hms; subst hn
  intro p l e R s mid args below meth c D cA A b Q ad H locs cells slots ls hC hX hR hW hl hr2
  refine va_newa (atype := .int) (N' := N) (ty := .int) (a0 := (N, .inl (fun _ => 0))) hC.1 hC.2.1 (hC.2.2.2.2.2.1 _ hw) rfl hC.2.2.2.2.2.2.2.2.1.1 hW.1 hW.2.1 hW.2.2 hC.2.2.2.2.2.2.2.2.2 (fun cA => rfl) (nI_pos (by omega)) (nI_clamp (by omega)) (by simp [componentBytes]; omega) (by omega) (by omega) hd (fun q cA2 H1 hK hP hD hS1 => ?_)
  have hc : cA2 = cA 0 := by
    have h1 : s.vm.findClass ("[" ++ FieldType.int.toString) = some cA2 := (hK.2 4 (cA2, .int) rfl).2
    have h2 : s.vm.findClass ("[" ++ FieldType.int.toString) = some (cA 0) := (hK.2 0 (cA 0, .int) rfl).2
    exact Option.some.inj (h1.symm.trans h2)
  subst hc
  have hw : (.inl (cA 0, N, .inl (fun _ => (0 : Int32))) : va_E) = ce_at cA ad mi mr sh.length (.inr (0, N)) := by
    simp only [ce_at, ce_ar]
    congr 4
    funext j
    exact (hz j).symm
  rw [ce_push (s := .inr (0, N)) hm hw] at hP hD
  have h : ∀ i, i < sh.length → va_up ad sh.length q i = ad i := fun i hi => by simp [va_up, Nat.ne_of_lt hi]
  have := kk p l e R s mid args below meth c D cA A b Q (va_up ad sh.length q) H1 locs (cells + 1) (slots + N) ls hC hX ⟨hR.1, hR.2.1, by omega, by omega⟩ ⟨hP, hD, hS1⟩ (pl_ok h hL hl) (fun v sh2 mi2 mr2 ad2 H2 locs2 cells2 slots2 pc2 ls2 a1 a2 a3 a4 a5 => hr2 v sh2 mi2 mr2 ad2 H2 locs2 cells2 slots2 pc2 ls2 a1 (ex_tr ex_push a2) a3 ⟨by omega, by omega⟩ a5)
  rw [List.map_cons, ps_ok h hS] at this
  have e1 : pm_v b (va_up ad sh.length q) (pv_r sh.length) = Value.ref q := by simp [pm_v, va_up, va_rf]
  rw [e1] at this
  exact this
theorem ev_newz {N mc1 ms1 : Nat} {n : Int32} (hd : decode M.2.1 pc = .ok (.newarray .boolean, 2)) (hw : Cond.arrayClass .boolean ∈ tb_w) (hn : n = nI N) (hN : N < 4096) (hS : ok_s sh.length S) (hL : ok_l sh.length L) (hm : ok_m sh.length mr) (hz : ∀ j, mi sh.length j = 0) (hmc : mc1 + 1 = mc) (hms : ms1 + N = ms)
    (kk : EV X d mc1 ms1 M (pc + 2) L (pv_r sh.length :: S) (sh ++ [.inr (1, N)]) mi mr Po) : EV X d mc ms M pc L (pv_i n :: S) sh mi mr Po := by
  subst hmc; subst hms; subst hn
  intro p l e R s mid args below meth c D cA A b Q ad H locs cells slots ls hC hX hR hW hl hr2
  refine va_newa (atype := .boolean) (N' := N) (ty := .boolean) (a0 := (N, .inl (fun _ => 0))) hC.1 hC.2.1 (hC.2.2.2.2.2.1 _ hw) rfl hC.2.2.2.2.2.2.2.2.1.1 hW.1 hW.2.1 hW.2.2 hC.2.2.2.2.2.2.2.2.2 (fun cA => rfl) (nI_pos (by omega)) (nI_clamp (by omega)) (by simp [componentBytes]; omega) (by omega) (by omega) hd (fun q cA2 H1 hK hP hD hS1 => ?_)
  have hc : cA2 = cA 1 := by
    have h1 : s.vm.findClass ("[" ++ FieldType.boolean.toString) = some cA2 := (hK.2 4 (cA2, .boolean) rfl).2
    have h2 : s.vm.findClass ("[" ++ FieldType.boolean.toString) = some (cA 1) := (hK.2 1 (cA 1, .boolean) rfl).2
    exact Option.some.inj (h1.symm.trans h2)
  subst hc
  have hw : (.inl (cA 1, N, .inl (fun _ => (0 : Int32))) : va_E) = ce_at cA ad mi mr sh.length (.inr (1, N)) := by
    simp only [ce_at, ce_ar]
    congr 4
    funext j
    exact (hz j).symm
  rw [ce_push (s := .inr (1, N)) hm hw] at hP hD
  have h : ∀ i, i < sh.length → va_up ad sh.length q i = ad i := fun i hi => by simp [va_up, Nat.ne_of_lt hi]
  have := kk p l e R s mid args below meth c D cA A b Q (va_up ad sh.length q) H1 locs (cells + 1) (slots + N) ls hC hX ⟨hR.1, hR.2.1, by omega, by omega⟩ ⟨hP, hD, hS1⟩ (pl_ok h hL hl) (fun v sh2 mi2 mr2 ad2 H2 locs2 cells2 slots2 pc2 ls2 a1 a2 a3 a4 a5 => hr2 v sh2 mi2 mr2 ad2 H2 locs2 cells2 slots2 pc2 ls2 a1 (ex_tr ex_push a2) a3 ⟨by omega, by omega⟩ a5)
  rw [List.map_cons, ps_ok h hS] at this
  have e1 : pm_v b (va_up ad sh.length q) (pv_r sh.length) = Value.ref q := by simp [pm_v, va_up, va_rf]
  rw [e1] at this
  exact this
theorem ev_newq {N mc1 ms1 t idx : Nat} {C : String} {n : Int32} (hd : decode M.2.1 pc = .ok (.anewarray idx, 3)) (hw : Cond.classLink M.1.cls idx C ∈ tb_w) (htc : (t = 0 ∧ C = "Bindery$Book") ∨ (t = 1 ∧ C = "Bindery$Skin")) (hn : n = nI N) (hN : N < 4096) (hS : ok_s sh.length S) (hL : ok_l sh.length L) (hm : ok_m sh.length mr) (hz : ∀ j, mr sh.length j = none) (hmc : mc1 + 1 = mc) (hms : ms1 + N = ms)
    (kk : EV X d mc1 ms1 M (pc + 3) L (pv_r sh.length :: S) (sh ++ [.inr (t + 2, N)]) mi mr Po) : EV X d mc ms M pc L (pv_i n :: S) sh mi mr Po := by
  subst hmc; subst hms; subst hn
  intro p l e R s mid args below meth c D cA A b Q ad H locs cells slots ls hC hX hR hW hl hr2
  have hao : va_AO C s := by
    rcases htc with ⟨-, rfl⟩ | ⟨-, rfl⟩
    · exact hC.2.2.2.2.2.2.2.2.1.2.2.1
    · exact hC.2.2.2.2.2.2.2.2.1.2.2.2
  refine va_newq (N' := N) (C := C) hC.1 hC.2.1 hC.2.2.2.2.1 (hC.2.2.2.2.2.1 _ hw) hao hC.2.2.2.2.2.2.2.2.1.1 hW.1 hW.2.1 hW.2.2 hC.2.2.2.2.2.2.2.2.2 (nI_pos (by omega)) (nI_clamp (by omega)) (by omega) (by omega) (by omega) hd (fun q cA2 H1 hK hP hD hS1 => ?_)
  have hc : cA2 = cA (t + 2) := by
    obtain ⟨_, _, -, -, -, h1⟩ := (hK.2 4 (cA2, .object C) rfl).2
    rcases htc with ⟨rfl, rfl⟩ | ⟨rfl, rfl⟩
    · obtain ⟨_, _, -, -, -, h2⟩ := (hK.2 2 (cA 2, .object "Bindery$Book") rfl).2
      exact Option.some.inj (h1.symm.trans h2)
    · obtain ⟨_, _, -, -, -, h2⟩ := (hK.2 3 (cA 3, .object "Bindery$Skin") rfl).2
      exact Option.some.inj (h1.symm.trans h2)
  subst hc
  have hw : (.inl (cA (t + 2), N, .inr (.inr (.inr (.inr (fun _ => none))))) : va_E) = ce_at cA ad mi mr sh.length (.inr (t + 2, N)) := by
    simp only [ce_at, ce_ar]
    congr 7
    funext j
    rw [hz j]
    rfl
  rw [ce_push (s := .inr (t + 2, N)) hm hw] at hP hD
  have h : ∀ i, i < sh.length → va_up ad sh.length q i = ad i := fun i hi => by simp [va_up, Nat.ne_of_lt hi]
  have := kk p l e R s mid args below meth c D cA A b Q (va_up ad sh.length q) H1 locs (cells + 1) (slots + N) ls hC hX ⟨hR.1, hR.2.1, by omega, by omega⟩ ⟨hP, hD, hS1⟩ (pl_ok h hL hl) (fun v sh2 mi2 mr2 ad2 H2 locs2 cells2 slots2 pc2 ls2 a1 a2 a3 a4 a5 => hr2 v sh2 mi2 mr2 ad2 H2 locs2 cells2 slots2 pc2 ls2 a1 (ex_tr ex_push a2) a3 ⟨by omega, by omega⟩ a5)
  rw [List.map_cons, ps_ok h hS] at this
  have e1 : pm_v b (va_up ad sh.length q) (pv_r sh.length) = Value.ref q := by simp [pm_v, va_up, va_rf]
  rw [e1] at this
  exact this
theorem ev_objInit {idx k : Nat} (hd : decode M.2.1 pc = .ok (.invokespecial idx, 3)) (hw1 : Cond.methodLink M.1.cls idx objectInit ∈ tb_w) (hw2 : Cond.instanceMethod objectInit ∈ tb_w) (hw3 : Cond.code objectInit ⟨#[0xb1]⟩ 1 none ∈ tb_w) (h1 : 1 ≤ d) (h2 : S.length ≤ 8) (kk : EV X d mc ms M (pc + 3) L S sh mi mr Po) : EV X d mc ms M pc L (pv_r k :: S) sh mi mr Po := by
  intro p l e R s mid args below meth c D cA A b Q ad H locs cells slots ls hC hX hR hW hl hr2
  refine W.objInit hC.1 hC.2.1 hC.2.2.2.2.1 (hC.2.2.2.2.2.1 _ hw1) (hC.2.2.2.2.2.1 _ hw2) (hC.2.2.2.2.2.1 _ hw3) rfl (by rw [hC.2.2.2.1]; exact hl.1) rfl hd (by omega) ?_ ?_
  · have := st_sum (b := b) (ad := ad) (S := S)
    have h3 := lv_room (m := mid) (pc := pc) (ls := ls) (rest := S.map (pm_v b ad)) (st := S.map (pm_v b ad)) (by rw [this]; exact h2)
    have h4 : 2 * (F0 mid pc ls ((pv_r k :: S).map (pm_v b ad))).monitorRoom = 2 * (F0 mid pc ls (S.map (pm_v b ad))).monitorRoom := rfl
    omega
  · exact kk p l e R s mid args below meth c D cA A b Q ad H locs cells slots ls hC hX hR hW hl hr2
end EVH
end
section
/-- a method's words and room; its locals at the start -/
def mw_c (M : MD) : List Cond := Cond.code M.1 M.2.1 M.2.2.1 M.2.2.2 :: tb_w
def rm_c (d mc ms : Nat) : Room := { frames := d, cells := mc, slots := ms, locals := 40 * d }
def en_l (M : MD) (av : List PV) : List (Option PV) := av.map some ++ List.replicate (M.2.2.1 - av.length) none
theorem mw_good {M N : MD} (h : Cond.code N.1 N.2.1 N.2.2.1 N.2.2.2 ∈ tb_w) : GoodIn tb_w (mw_c N) := by
  intro w hw
  rcases List.mem_cons.mp hw with rfl | hw
  · exact ⟨h, good_of_word (tb_good h)⟩
  · exact ⟨hw, good_of_word (tb_good hw)⟩
def qc_c (D : va_G) (cA : Nat → ClassId) (b : Nat) (ad : Nat → Nat) (sh : SH) (Po : PO) (A : Nat → Prop) : Array Value → State → Outcome → State → Prop := fun _ st oc t =>
  (∃ (v : Option PV) (sh2 : SH) (mi2 : MI) (mr2 : MR) (ad2 : Nat → Nat), oc = .returned (v.map (pm_v b ad2)) ∧ Po v sh2 mi2 mr2 ∧ ex_c sh ad sh2 ad2 ∧ va_P D vwCl (ce_ws cA ad2 sh2 mi2 mr2) t.heap ∧ va_D A (ce_ws cA ad2 sh2 mi2 mr2)) ∧ va_F A st t
def pc_c (D : va_G) (cA : Nat → ClassId) (ad : Nat → Nat) (sh : SH) (mi : MI) (mr : MR) (sz : Nat) (U : State) : Prop := U.heap.size = sz ∧ va_P D vwCl (ce_ws cA ad sh mi mr) U.heap ∧ kk_w D cA U ∧ va_D (fun _ => True) (ce_ws cA ad sh mi mr)
theorem lg_len (b : Nat) (ad : Nat → Nat) (av : List PV) : lg_sl (av.map (pm_v b ad)) = av.map (fun v => Slot.val (pm_v b ad v)) := by
  induction av with
  | nil => rfl
  | cons v av ih =>
    have : lg_sl ((v :: av).map (pm_v b ad)) = (if (pm_v b ad v).category = 2 then [.val (pm_v b ad v), .second] else [.val (pm_v b ad v)]) ++ lg_sl (av.map (pm_v b ad)) := rfl
    rw [this, ih, pm_cat]
    rfl
theorem la_mem (b : Nat) (ad : Nat → Nat) : ∀ (av : List PV) (i k : Nat) (v : PV), av[k]? = some v → (i + k, pm_v b ad v) ∈ lv_args i (av.map (pm_v b ad))
  | [], i, k, v, h => by simp at h
  | w :: av, i, 0, v, h => by
    simp at h
    subst h
    exact List.mem_cons_self
  | w :: av, i, k + 1, v, h => by
    rw [List.getElem?_cons_succ] at h
    have := la_mem b ad av (i + 1) k v h
    have hc : ¬ (pm_v b ad w).category = 2 := by rw [pm_cat]; decide
    refine List.mem_cons_of_mem _ ?_
    rw [if_neg hc, show i + (k + 1) = i + 1 + k by omega]
    exact this
theorem en_has {M : MD} {b : Nat} {ad : Nat → Nat} {av : List PV} (hn : av.length ≤ M.2.2.1) : lh_c ((lg_sl (av.map (pm_v b ad)) ++ List.replicate (M.2.2.1 - (lg_sl (av.map (pm_v b ad))).length) Slot.unset).toArray) M.2.2.1 b ad (en_l M av) := by
  have h := lv_entry (av.map (pm_v b ad)) (n := M.2.2.1) (by rw [lg_len]; simpa using hn)
  refine ⟨h.1, h.2.1, fun k v hk => ?_⟩
  have hk2 : av[k]? = some v := by
    by_cases hl : k < av.length
    · rw [en_l, List.getElem?_append_left (by simpa using hl), List.getElem?_map] at hk
      cases ha : av[k]? with
      | none => rw [ha] at hk; cases hk
      | some w => rw [ha] at hk; simp at hk; rw [hk]
    · rw [en_l, List.getElem?_append_right (by simp; omega)] at hk
      have := List.mem_of_getElem? hk
      simp at this
  have := la_mem b ad av 0 k v hk2
  rw [Nat.zero_add] at this
  exact h.2.2 _ this
theorem met_ev {M : MD} {d mc ms : Nat} {av : List PV} {sh : SH} {mi : MI} {mr : MR} {Po : PO} (hpl : plainName M.1.cls = true) (hlen : av.length ≤ M.2.2.1) (h : EV none d mc ms M 0 (en_l M av) [] sh mi mr Po) (l : Launch) (D : va_G) (cA : Nat → ClassId) (ad : Nat → Nat) (b sz : Nat) :
    Met l M.1 (mw_c M) (rm_c d mc ms) (va_Pc (av.map (pm_v b ad)) (pc_c D cA ad sh mi mr sz)) (qc_c D cA b ad sh Po (va_A (ce_ws cA ad sh mi mr) sz)) mc ms (va_A (ce_ws cA ad sh mi mr) sz) := by
  refine Met.ofW (cc := M.2.1) (maxL := M.2.2.1) (ret := M.2.2.2) hpl rfl ?_
  intro p e s m args below meth c s₁ B hml hv
  obtain ⟨rfl, hsz, hP, hK, hD0⟩ := hv
  have hts0 := atoms_spec (ws := mw_c M) B.pre
  have hts : ∀ w ∈ tb_w, w.before (av.map (pm_v b ad)).toArray s = true := fun w hw => hts0 w (List.mem_cons_of_mem _ hw)
  have hown : s.vm.findClass M.1.cls = some m.cls := findClass_of_methodNamed B.named
  have hlocks := B.notSynchronized
  have hin : meth.name = M.1.name := (name_of_methodNamed B.named B.method).1
  subst hsz
  have hD := hD0.self (sz := s.heap.size)
  have hA : ∀ q : Nat, s.heap.size ≤ q → va_A (ce_ws cA ad sh mi mr) s.heap.size q := fun q h => Or.inr h
  rw [lg_entry_eq]
  refine h p l e (rm_c d mc ms) s m _ below meth c D cA (va_A (ce_ws cA ad sh mi mr) s.heap.size) b _ ad s.heap [] 0 0 _ ⟨B.exec, B.bytes, B.returns, hml, hown, hts, hlocks, fun h => hin.trans h, hK, hA⟩ (fun n xs hn => by cases hn) ⟨Nat.le_refl _, Nat.le_refl _, by simp [rm_c], by simp [rm_c]⟩ ⟨hP, hD, va_S.rf⟩ (en_has hlen) ?_
  intro v sh2 mi2 mr2 ad2 H2 locs2 cells2 slots2 pc2 ls2 hPo hex hW hcs hrt
  refine W.widen (k := mc) (n := ms) (by omega) (by omega) ?_
  have hq : ∀ t : State, t.heap = H2 → s.WarmedH t.vm → qc_c D cA b ad sh Po (va_A (ce_ws cA ad sh mi mr) s.heap.size) (av.map (pm_v b ad)).toArray s (.returned (v.map (pm_v b ad2))) t := fun t ht hWt => ⟨⟨v, sh2, mi2, mr2, ad2, rfl, hPo, hex, by rw [ht]; exact hW.1, hW.2.1⟩, hW.2.2.F ht⟩
  match v, hrt, hq with
  | none, hrt, hq => exact W.vret B.exec B.bytes (B.returns.trans hrt.2) hq hW.2.2.2.2 hrt.1
  | some (.inl x), hrt, hq =>
    obtain ⟨hd, ty, ht, hn⟩ := hrt
    exact W.zret B.exec B.bytes (B.returns.trans ht) hn hq hW.2.2.2.2 hd
  | some (.inr (.inl r)), hrt, hq =>
    obtain ⟨hd, n, ht⟩ := hrt
    exact W.aret B.exec B.bytes (B.returns.trans ht) (Or.inl ⟨n, rfl⟩) (by cases r <;> simp [pm_v, va_rf]) hq hW.2.2.2.2 hd
  | some (.inr (.inr _)), hrt, _ => exact hrt.elim
section RUN
variable {p : Program} {l : Launch} {e : Env} {R : Room} {s : State} {mid : MethodId} {args : Array Value} {below : List Frame} {meth : Method} {c : Code} {H : Heap} {locs : List Loc} {cells slots : Nat} {Q : State → Prop}
variable {pc mc ms b : Nat} {ls : Array Slot} {rest st0 : List Value} {a : Array Value} {A0 A1 : Nat → Prop} {H0 : Heap} {free : Addr → Prop} {D : va_G} {cA : Nat → ClassId} {ad : Nat → Nat} {sh : SH} {Po : PO}
theorem rn_go (hr : va_Run p l e R s mid args below meth c H locs cells slots mc ms (F0 mid pc ls st0) rest (qc_c D cA b ad sh Po A1 a) free) (hS : va_S A0 H0 H locs) (hA : ∀ q, q < H.size → A1 q → A0 q) (hf : ∀ q, free q → A0 q)
    (kk : ∀ (v : Option PV) (sh2 : SH) (mi2 : MI) (mr2 : MR) (ad2 : Nat → Nat) (H1 : Heap) (locs1 : List Loc), Po v sh2 mi2 mr2 → ex_c sh ad sh2 ad2 → va_P D vwCl (ce_ws cA ad2 sh2 mi2 mr2) H1 → va_D A1 (ce_ws cA ad2 sh2 mi2 mr2) → va_S A0 H0 H1 locs1 → W p l e R s mid args below meth c H1 locs1 (cells + mc) (slots + ms) Q (F0 mid (pc + 3) ls ((v.map (pm_v b ad2)).toList ++ rest))) : W p l e R s mid args below meth c H locs cells slots Q (F0 mid pc ls st0) := by
  intro T hT X
  obtain ⟨v, st₀, t, T', L, h0, X', hL, e1, e2, ⟨⟨v1, sh2, mi2, mr2, ad2, hv, hp, hex, hP1, hD1⟩, hz, hk⟩, st⟩ := hr T hT X
  cases hv
  rw [h0] at hz hk
  obtain ⟨t2, a1, b1⟩ := kk v1 sh2 mi2 mr2 ad2 T'.heap (locs ++ L) hp hex (by rw [e1]; exact hP1) hD1
    ⟨Nat.le_trans hS.1 (by rw [e1]; exact hz), fun q h1 h2 => by rw [e1, hk q (Nat.lt_of_lt_of_le h1 hS.1) (fun z => h2 (hA q (Nat.lt_of_lt_of_le h1 hS.1) z))]; exact hS.2.1 q h1 h2, fun q hq => by
      rcases List.mem_append.mp hq with h | h
      · exact hS.2.2 q h
      · exact hf _ (hL q h)⟩ T' rfl X'
  exact ⟨t2, st t2 a1, b1⟩
end RUN
theorem fb_c {D : va_G} {cA : Nat → ClassId} {ad : Nat → Nat} {sh : SH} {mi : MI} {mr : MR} {sz : Nat} {av : List Value} : FrameBlind (va_Pc av (pc_c D cA ad sh mi mr sz)) := fun a U g mk q => by
  obtain ⟨q0, q1, qP, qK, qD⟩ := q
  exact ⟨q0, q1, qP, kk_w.same (s := U) (U := U.calling g mk a) rfl qK, qD⟩
/-- what a call's instruction needs of the tables: by its kind -/
def cd_c (N : MD) (n : Nat) : Prop := N.1.cls ≠ "java/lang/invoke/MethodHandle" ∧ N.1.cls ≠ "java/lang/invoke/VarHandle" ∧ (parseMethodDescriptor N.1.desc).map (fun d => d.parameters.length) = some n
def cm_c (N : MD) (n : Nat) : Prop := Cond.code N.1 N.2.1 N.2.2.1 N.2.2.2 ∈ tb_w ∧ Cond.initialized N.1.cls ∈ tb_w ∧ cd_c N n ∧ N.2.2.1 ≤ 20 ∧ plainName N.1.cls = true
def cv_c (own : String) (idx : Nat) (N : MD) (ci n : Nat) : Prop := ci < 7 ∧ cl_R ci = N.1.cls ∧ Cond.methodLink own idx N.1 ∈ tb_w ∧ Cond.instanceMethod N.1 ∈ tb_w ∧ Cond.selects N.1.cls N.1 N.1 ∈ tb_w ∧ cm_c N n ∧ n + 1 ≤ N.2.2.1
def cs_c (own : String) (idx : Nat) (N : MD) (n : Nat) : Prop := Cond.methodLink own idx N.1 ∈ tb_w ∧ Cond.static N.1 ∈ tb_w ∧ cm_c N n ∧ n ≤ N.2.2.1
def cn_c (own : String) (idx : Nat) (N : MD) (n : Nat) : Prop := (own, idx, N.1, "Bindery") ∈ nl_w ∧ Cond.static N.1 ∈ tb_w ∧ cm_c N n ∧ n ≤ N.2.2.1
def ci_c (own : String) (idx : Nat) (N : MD) (n : Nat) : Prop := (Cond.methodLink own idx N.1 ∈ tb_w ∨ (own, idx, N.1, "Bindery") ∈ nl_w) ∧ Cond.instanceMethod N.1 ∈ tb_w ∧ N.1.name = "<init>" ∧ N.2.2.2 = none ∧ cm_c N n ∧ n + 1 ≤ N.2.2.1
section EVC
variable {X : Option (Nat × (Nat → Int32))} {d mc ms : Nat} {M N : MD} {pc : Nat} {L : List (Option PV)} {S S0 : List PV} {sh : SH} {mi : MI} {mr : MR} {Po Po1 : PO} {d1 mc1 ms1 mc2 ms2 idx n : Nat} {av : List PV}
/-- a call, in general: from va_Run to what goes on -/
theorem ev_run (hkeep : (∀ v sh2 mi2 mr2, Po1 v sh2 mi2 mr2 → sh2.length = sh.length) ∨ (ok_s sh.length S ∧ ok_l sh.length L)) (hmc : mc1 + mc2 = mc) (hms : ms1 + ms2 = ms)
    (hrun : ∀ (p : Program) (l : Launch) (e : Env) (R : Room) (s : State) (mid : MethodId) (args : Array Value) (below : List Frame) (meth : Method) (c : Code) (D : va_G) (cA : Nat → ClassId) (A : Nat → Prop) (b : Nat) (ad : Nat → Nat) (H : Heap) (locs : List Loc) (cells slots : Nat) (ls : Array Slot), cx_c M p s mid args meth c D cA A → (d ≤ R.frames ∧ 40 * d ≤ R.locals ∧ cells + mc ≤ R.cells ∧ slots + ms ≤ R.slots) → wx_c D cA ad sh mi mr A s H locs → lh_c ls M.2.2.1 b ad L →
      ∃ a : Array Value, va_Run p l e R s mid args below meth c H locs cells slots mc1 ms1 (F0 mid pc ls (S0.map (pm_v b ad))) (S.map (pm_v b ad)) (qc_c D cA b ad sh Po1 (va_A (ce_ws cA ad sh mi mr) H.size) a) (va_A (ce_ws cA ad sh mi mr) H.size))
    (kk : ∀ v sh2 mi2 mr2, Po1 v sh2 mi2 mr2 → EV X d mc2 ms2 M (pc + 3) L (v.toList ++ S) sh2 mi2 mr2 Po) : EV X d mc ms M pc L S0 sh mi mr Po := by
  subst hmc; subst hms
  intro p l e R s mid args below meth c D cA A b Q ad H locs cells slots ls hC hX hR hW hl hr2
  obtain ⟨a, hrn⟩ := hrun p l e R s mid args below meth c D cA A b ad H locs cells slots ls hC hR hW hl
  have hF : ∀ q, va_A (ce_ws cA ad sh mi mr) H.size q → A q := by
    intro q hq
    rcases hq with ⟨k, w, hk⟩ | hq
    · exact hW.2.1.2 k (q, w) hk
    · exact hC.2.2.2.2.2.2.2.2.2 q (Nat.le_trans hW.2.2.1 hq)
  refine rn_go hrn hW.2.2 (fun q _ h => hF q h) hF (fun v sh2 mi2 mr2 ad2 H1 locs1 hPo hex hP hD hS => ?_)
  have hS2 : S.map (pm_v b ad2) = S.map (pm_v b ad) ∧ lh_c ls M.2.2.1 b ad2 L := by
    rcases hkeep with h | ⟨h1, h2⟩
    · rw [hex.2.2 (h v sh2 mi2 mr2 hPo)]
      exact ⟨rfl, hl⟩
    · exact ⟨ps_ok hex.2.1 h1, pl_ok hex.2.1 h2 hl⟩
  have := kk v sh2 mi2 mr2 hPo p l e R s mid args below meth c D cA A b Q ad2 H1 locs1 (cells + mc1) (slots + ms1) ls hC hX ⟨hR.1, hR.2.1, by omega, by omega⟩ ⟨hP, hD.weaken (fun _ q _ h => hF q.1 h), hS⟩ hS2.2 (fun v sh3 mi3 mr3 ad3 H3 locs3 cells3 slots3 pc3 ls3 a1 a2 a3 a4 a5 => hr2 v sh3 mi3 mr3 ad3 H3 locs3 cells3 slots3 pc3 ls3 a1 (ex_tr hex a2) a3 ⟨by omega, by omega⟩ a5)
  rw [List.map_append, hS2.1] at this
  have e1 : v.toList.map (pm_v b ad2) = (v.map (pm_v b ad2)).toList := by cases v <;> rfl
  rw [e1] at this
  exact this
theorem ev_callv {k ci : Nat} (hd : decode M.2.1 pc = .ok (.invokevirtual idx, 3)) (hc : cv_c M.1.cls idx N ci n) (hs : sh[k]? = some (.inl ci)) (hn : av.length = n) (hS0 : S0 = av.reverse ++ pv_r k :: S) (hS8 : S.length ≤ 8) (hd1 : d1 < d) (hkeep : (∀ v sh2 mi2 mr2, Po1 v sh2 mi2 mr2 → sh2.length = sh.length) ∨ (ok_s sh.length S ∧ ok_l sh.length L)) (hmc : mc1 + mc2 = mc) (hms : ms1 + ms2 = ms)
    (hcall : EV none d1 mc1 ms1 N 0 (en_l N (pv_r k :: av)) [] sh mi mr Po1) (kk : ∀ v sh2 mi2 mr2, Po1 v sh2 mi2 mr2 → EV X d mc2 ms2 M (pc + 3) L (v.toList ++ S) sh2 mi2 mr2 Po) : EV X d mc ms M pc L S0 sh mi mr Po := by
  refine ev_run hkeep hmc hms (fun p l e R s mid args below meth c D cA A b ad H locs cells slots ls hC hR hW hl => ?_) kk
  obtain ⟨hci, hcl, hw1, hw2, hw3, ⟨hm1, hm2, hm3, hm4, hm5⟩, hn1⟩ := hc
  have hM := met_ev hm5 (by simp; omega) hcall l D cA ad b H.size
  have hK : kk_w D cA s := hC.2.2.2.2.2.2.2.2.1
  have hG : GoodIn tb_w (wsV M.1.cls idx N.1.cls N.1 (mw_c N)) := by
    intro w hw
    rcases List.mem_append.mp hw with hw | hw
    · have : w ∈ tb_w := by
        simp only [List.mem_cons, List.not_mem_nil, or_false] at hw
        rcases hw with rfl | rfl | rfl | rfl
        · exact hw1
        · exact hw2
        · exact hw3
        · exact hm2
      exact ⟨this, good_of_word (tb_good this)⟩
    · exact mw_good (M := M) hm1 w hw
  have hcw := cwV (R := R) (rm := rm_c d1 mc1 ms1) n hC.2.2.2.2.2.1 hG rfl rfl rfl ⟨rfl, hm3⟩ ⟨show d1 + 1 ≤ R.frames by omega, show 8 + (N.2.2.1 + 11) + 40 * d1 ≤ R.locals by omega⟩
  have e1 : S0.map (pm_v b ad) = (av.map (pm_v b ad)).reverse ++ Value.ref (ad k) :: S.map (pm_v b ad) := by
    rw [hS0, List.map_append, List.map_reverse]
    rfl
  refine ⟨_, va_runV (As := av.map (pm_v b ad)) (b := ad k) ⟨hC.1, hC.2.1, hC.2.2.2.1, hC.2.2.2.2.1, hC.2.2.2.2.2.1⟩ hM hcw ⟨fb_c, ?_, fun U hU hWU => ⟨rfl, by rw [hU], by rw [hU]; exact hW.1, hK.warm hWU, hW.2.1.weaken (fun _ _ _ _ => trivial)⟩⟩ rfl (by simpa using hn) hl.1 e1 (by rw [e1] <;> exact lv_room (by rw [st_sum]; exact hS8)) hd ⟨by omega, by omega⟩⟩
  have := va_recv hK.1 hW.1 (cl_cl ci hci) (ce_get hs)
  rw [← hcl]
  exact this
theorem ev_calls (hd : decode M.2.1 pc = .ok (.invokestatic idx, 3)) (hc : cs_c M.1.cls idx N n) (hn : av.length = n) (hS0 : S0 = av.reverse ++ S) (hS8 : S.length ≤ 8) (hd1 : d1 < d) (hkeep : (∀ v sh2 mi2 mr2, Po1 v sh2 mi2 mr2 → sh2.length = sh.length) ∨ (ok_s sh.length S ∧ ok_l sh.length L)) (hmc : mc1 + mc2 = mc) (hms : ms1 + ms2 = ms)
    (hcall : EV none d1 mc1 ms1 N 0 (en_l N av) [] sh mi mr Po1) (kk : ∀ v sh2 mi2 mr2, Po1 v sh2 mi2 mr2 → EV X d mc2 ms2 M (pc + 3) L (v.toList ++ S) sh2 mi2 mr2 Po) : EV X d mc ms M pc L S0 sh mi mr Po := by
  refine ev_run hkeep hmc hms (fun p l e R s mid args below meth c D cA A b ad H locs cells slots ls hC hR hW hl => ?_) kk
  obtain ⟨hw1, hw2, ⟨hm1, hm2, hm3, hm4, hm5⟩, hn1⟩ := hc
  have hM := met_ev hm5 (by omega) hcall l D cA ad b H.size
  have hK : kk_w D cA s := hC.2.2.2.2.2.2.2.2.1
  have hG : GoodIn tb_w (va_wsS M.1.cls idx N.1 (mw_c N)) := by
    intro w hw
    rcases List.mem_append.mp hw with hw | hw
    · have : w ∈ tb_w := by
        simp only [List.mem_cons, List.not_mem_nil, or_false] at hw
        rcases hw with rfl | rfl | rfl
        · exact hw1
        · exact hw2
        · exact hm2
      exact ⟨this, good_of_word (tb_good this)⟩
    · exact mw_good (M := M) hm1 w hw
  have hcw := va_cwS (R := R) (rm := rm_c d1 mc1 ms1) n hC.2.2.2.2.2.1 hG rfl rfl rfl hm3 ⟨show d1 + 1 ≤ R.frames by omega, show 8 + (N.2.2.1 + 11) + 40 * d1 ≤ R.locals by omega⟩
  have e1 : S0.map (pm_v b ad) = (av.map (pm_v b ad)).reverse ++ S.map (pm_v b ad) := by
    rw [hS0, List.map_append, List.map_reverse]
  exact ⟨_, va_runS (As := av.map (pm_v b ad)) ⟨hC.1, hC.2.1, hC.2.2.2.1, hC.2.2.2.2.1, hC.2.2.2.2.2.1⟩ hM hcw ⟨fb_c, fun U hU hWU => ⟨rfl, by rw [hU], by rw [hU]; exact hW.1, hK.warm hWU, hW.2.1.weaken (fun _ _ _ _ => trivial)⟩⟩ rfl (by simpa using hn) hl.1 e1 (by rw [e1] <;> exact lv_room (by rw [st_sum]; exact hS8)) hd ⟨by omega, by omega⟩⟩
theorem ev_calln (hd : decode M.2.1 pc = .ok (.invokestatic idx, 3)) (hc : cn_c M.1.cls idx N n) (hn : av.length = n) (hS0 : S0 = av.reverse ++ S) (hS8 : S.length ≤ 8) (hd1 : d1 < d) (hkeep : (∀ v sh2 mi2 mr2, Po1 v sh2 mi2 mr2 → sh2.length = sh.length) ∨ (ok_s sh.length S ∧ ok_l sh.length L)) (hmc : mc1 + mc2 = mc) (hms : ms1 + ms2 = ms)
    (hcall : EV none d1 mc1 ms1 N 0 (en_l N av) [] sh mi mr Po1) (kk : ∀ v sh2 mi2 mr2, Po1 v sh2 mi2 mr2 → EV X d mc2 ms2 M (pc + 3) L (v.toList ++ S) sh2 mi2 mr2 Po) : EV X d mc ms M pc L S0 sh mi mr Po := by
  refine ev_run hkeep hmc hms (fun p l e R s mid args below meth c D cA A b ad H locs cells slots ls hC hR hW hl => ?_) kk
  obtain ⟨hw1, hw2, ⟨hm1, hm2, hm3, hm4, hm5⟩, hn1⟩ := hc
  have hM := met_ev hm5 (by omega) hcall l D cA ad b H.size
  have hK : kk_w D cA s := hC.2.2.2.2.2.2.2.2.1
  have hcw := va_cnB (R := R) (rm := rm_c d1 mc1 ms1) n hC.2.2.2.2.2.1 (mw_good (M := M) hm1) rfl rfl rfl (hK.2.1 _ hw1) (hC.2.2.2.2.2.1 _ hm2) hm3 ⟨show d1 + 1 ≤ R.frames by omega, show 8 + (N.2.2.1 + 11) + 40 * d1 ≤ R.locals by omega⟩
  have e1 : S0.map (pm_v b ad) = (av.map (pm_v b ad)).reverse ++ S.map (pm_v b ad) := by
    rw [hS0, List.map_append, List.map_reverse]
  exact ⟨_, va_runSN (As := av.map (pm_v b ad)) ⟨hC.1, hC.2.1, hC.2.2.2.1, hC.2.2.2.2.1, hC.2.2.2.2.2.1⟩ hM ⟨hcw, hC.2.2.2.2.2.1 _ hw2, trivial⟩ ⟨fb_c, fun U hU hWU => ⟨rfl, by rw [hU], by rw [hU]; exact hW.1, hK.warm hWU, hW.2.1.weaken (fun _ _ _ _ => trivial)⟩⟩ rfl (by simpa using hn) hl.1 e1 (by rw [e1] <;> exact lv_room (by rw [st_sum]; exact hS8)) hd ⟨by omega, by omega⟩⟩
theorem ev_calli {k : Nat} (hd : decode M.2.1 pc = .ok (.invokespecial idx, 3)) (hc : ci_c M.1.cls idx N n) (hn : av.length = n) (hS0 : S0 = av.reverse ++ pv_r k :: S) (hS8 : S.length ≤ 8) (hd1 : d1 < d) (hkeep : (∀ v sh2 mi2 mr2, Po1 v sh2 mi2 mr2 → sh2.length = sh.length) ∨ (ok_s sh.length S ∧ ok_l sh.length L)) (hmc : mc1 + mc2 = mc) (hms : ms1 + ms2 = ms)
    (hcall : EV none d1 mc1 ms1 N 0 (en_l N (pv_r k :: av)) [] sh mi mr Po1) (kk : ∀ v sh2 mi2 mr2, Po1 v sh2 mi2 mr2 → EV X d mc2 ms2 M (pc + 3) L (v.toList ++ S) sh2 mi2 mr2 Po) : EV X d mc ms M pc L S0 sh mi mr Po := by
  refine ev_run hkeep hmc hms (fun p l e R s mid args below meth c D cA A b ad H locs cells slots ls hC hR hW hl => ?_) kk
  obtain ⟨hw0, hw2, hnm, hrt, ⟨hm1, hm2, hm3, hm4, hm5⟩, hn1⟩ := hc
  have hM := met_ev hm5 (by simp; omega) hcall l D cA ad b H.size
  have hK : kk_w D cA s := hC.2.2.2.2.2.2.2.2.1
  have e1 : S0.map (pm_v b ad) = (av.map (pm_v b ad)).reverse ++ Value.ref (ad k) :: S.map (pm_v b ad) := by
    rw [hS0, List.map_append, List.map_reverse]
    rfl
  have hmw : mw_c N = Cond.code N.1 N.2.1 N.2.2.1 none :: tb_w := by rw [← hrt]; rfl
  have hP : PreS s H (va_Pc ((pv_r k :: av).map (pm_v b ad)) (pc_c D cA ad sh mi mr H.size)) (.ref (ad k) :: av.map (pm_v b ad)) := ⟨fb_c, fun U hU hWU => ⟨rfl, by rw [hU], by rw [hU]; exact hW.1, hK.warm hWU, hW.2.1.weaken (fun _ _ _ _ => trivial)⟩⟩
  rcases hw0 with hw1 | hw1
  · have hcw := cwI (R := R) (rm := rm_c d1 mc1 ms1) n hC.2.2.2.2.2.1 (mw_good (M := M) hm1) hmw rfl rfl (hC.2.2.2.2.2.1 _ hm2) (hC.2.2.2.2.2.1 _ hw1) (hC.2.2.2.2.2.1 _ hw2) hnm hm3 ⟨show d1 + 1 ≤ R.frames by omega, show 8 + (N.2.2.1 + 11) + 40 * d1 ≤ R.locals by omega⟩
    exact ⟨_, va_runI (As := av.map (pm_v b ad)) (b := ad k) ⟨hC.1, hC.2.1, hC.2.2.2.1, hC.2.2.2.2.1, hC.2.2.2.2.2.1⟩ hM hcw hP rfl (by simpa using hn) hl.1 e1 (by rw [e1] <;> exact lv_room (by rw [st_sum]; exact hS8)) hd ⟨by omega, by omega⟩⟩
  · have hcw := va_cnB (R := R) (rm := rm_c d1 mc1 ms1) n hC.2.2.2.2.2.1 (mw_good (M := M) hm1) hmw rfl rfl (hK.2.1 _ hw1) (hC.2.2.2.2.2.1 _ hm2) hm3 ⟨show d1 + 1 ≤ R.frames by omega, show 8 + (N.2.2.1 + 11) + 40 * d1 ≤ R.locals by omega⟩
    exact ⟨_, va_runIN (As := av.map (pm_v b ad)) (b := ad k) ⟨hC.1, hC.2.1, hC.2.2.2.1, hC.2.2.2.2.1, hC.2.2.2.2.2.1⟩ hM ⟨hcw, hnm, hC.2.2.2.2.2.1 _ hw2⟩ hP rfl (by simpa using hn) hl.1 e1 (by rw [e1] <;> exact lv_room (by rw [st_sum]; exact hS8)) hd ⟨by omega, by omega⟩⟩
end EVC
end
section
-- ===== end of PART A; then your names; then what follows =====
/-! THE CLAIM OUT OF ONE WALK OF THE LAW'S BODY. Your part is whole_start (and what it stands on); all else here is the same for every law, but numbers. -/
def R_law : String := "BinderyLaw"
def lw_P (b : Addr) (xs : List Int32) (args : Array Value) (s : State) : Prop := args = #[.ref b] ∧ s.IntsAt b xs ∧ xs.length ≤ 2560 ∧ (Jvm.Cond.and given_1 narrow_1).before args s = true
def lw_Q (_ : Array Value) (s : State) (o : Outcome) (t : State) : Prop := o = .returned (some (.int 1)) ∧ Framed s o t [] 600000 7302250
def lw_Z (below : List Frame) (a : Array Value) (s : State) : State → Prop := fun t => ∃ o, t.status = .running ∧ Ended t below o ∧ lw_Q a s o t
/-- the law's own end, with 1 on the stack, nothing written that was there before, its room as the claim has it -/
theorem lw_ret {p : Program} {l : Launch} {e : Env} {s : State} {m : MethodId} {below : List Frame} {meth : Method} {c : Code} {b : Nat} (hx : p.tables.exec = Jvm.exec) (hb : c.code = code) (hr : meth.sig.returnType = ret) (hlocks : meth.locks = false) {pc : Nat} {H : Heap} {ls : Array Slot} (hdg : decode code pc = .ok (.ireturn, 1)) : W p l e room_1 s m #[Value.ref b] below meth c H [] 600000 7302250 (lw_Z below #[Value.ref b] s) (F0 m pc ls [.int 1]) := by
  intro T hT X
  obtain ⟨fs, hret, hrun, hended, hW, hframe⟩ := X.leave (v := some (.int 1)) (hlocks := hlocks) (fun h => by rw [hr] at h; cases h)
  have hmeth' : T.vm.method? m = some meth := X.method'
  refine ⟨T.setFrames fs, ?_, .returned (some (.int 1)), hrun, hended, rfl, ⟨_, rfl⟩, hW, hframe⟩
  jvm_step X.here [X.here.top, hx, hb, hdg, hmeth', hr, ret, narrow_b1]
  (try refine ⟨rfl, ?_⟩); (try refine ⟨rfl, ?_⟩)
  first | (intro acts; rw [hret _ acts rfl rfl rfl]) | rw [hret _ _ rfl rfl rfl]
  exact Steps.refl _
/-- what holds at the law's entry: the machine, the code, the tables' words (any of lw_tbl by 'hts w (by decide +kernel)'), the script of L ints xs at the cell b, what the Statement gives of the start (any of its parts by flat_of_before) -/
def lw_At (p : Program) (s : State) (m : MethodId) (meth : Method) (c : Code) (b L : Nat) (xs : Nat → Int32) : Prop :=
  p.tables.exec = Jvm.exec ∧ c.code = code ∧ meth.sig.returnType = ret ∧ c.maxLocals = 4 ∧ s.vm.findClass R_law = some m.cls ∧ (∀ w ∈ lw_tbl, w.before #[Value.ref b] s = true) ∧ va_X b L xs s s.heap ∧ b < s.heap.size ∧ meth.locks = false ∧ (Jvm.Cond.and given_1 narrow_1).before #[Value.ref b] s = true

set_option maxRecDepth 100000 in
theorem ix_w : ∀ q ∈ nl_w, Cond.methodLinkNest q.1 q.2.1 q.2.2.1 q.2.2.2 ∈ lw_tbl := by decide +kernel
set_option maxRecDepth 100000 in
theorem ao_w : Cond.arrayOver (.object "Bindery$Book") ∈ lw_tbl ∧ Cond.arrayOver (.object "Bindery$Skin") ∈ lw_tbl ∧ Cond.arrayClass .int ∈ lw_tbl ∧ Cond.arrayClass .boolean ∈ lw_tbl := by decide +kernel
set_option maxRecDepth 100000 in
theorem ins_w : Cond.instantiable RX0 11 ∈ lw_tbl ∧ Cond.instantiable RX1 8 ∈ lw_tbl ∧ Cond.instantiable RX2 12 ∈ lw_tbl ∧ Cond.instantiable RX3 6 ∈ lw_tbl ∧ Cond.instantiable RX4 12 ∈ lw_tbl ∧ Cond.instantiable RX5 8 ∈ lw_tbl ∧ Cond.instantiable RX6 47 ∈ lw_tbl := by decide +kernel
theorem ar_c {s : State} {args : Array Value} {ty : FieldType} (h : (Cond.arrayClass ty).before args s = true) : ∃ cA, s.vm.findClass ("[" ++ ty.toString) = some cA ∧ ArrOfT s cA ty := by
  obtain ⟨cA, kA, comp, h1, h2, h3⟩ := Cond.arrayClass_spec h
  exact ⟨cA, h1, fun n z => ⟨fun k h => (by cases h), kA, h2, comp, h3⟩⟩
theorem ar_o {s : State} {args : Array Value} {C : String} (h : (Cond.arrayOver (.object C)).before args s = true) : ∃ cA, ArrOfT s cA (.object C) ∧ va_RA s cA (.object C) := by
  obtain ⟨comp, cA, kA, h1, -, h3, h4, h5⟩ := Cond.arrayOver_spec h
  exact ⟨cA, fun n z => ⟨fun k h => (by cases h), kA, h3, comp, h4⟩, kA, comp, h3, h4, h1, h5⟩
theorem kk_of {s : State} {args : Array Value} (hts : ∀ w ∈ lw_tbl, w.before args s = true) : ∃ (D : va_G) (cA : Nat → ClassId), kk_w D cA s := by
  have hf : ∀ {w}, w ∈ tb_w → w ∈ lw_tbl := fun h => (List.mem_filter.mp h).1
  obtain ⟨c0, i0, h0⟩ := u_known (C := RX0) (T := TX0) (N := 11) (n := 11) hts (fun w h => hf (cl_in0 w h)) (hts _ ins_w.1)
  obtain ⟨c1, i1, h1⟩ := u_known (C := RX1) (T := TX1) (N := 8) (n := 8) hts (fun w h => hf (cl_in1 w h)) (hts _ ins_w.2.1)
  obtain ⟨c2, i2, h2⟩ := u_known (C := RX2) (T := TX2) (N := 12) (n := 12) hts (fun w h => hf (cl_in2 w h)) (hts _ ins_w.2.2.1)
  obtain ⟨c3, i3, h3⟩ := u_known (C := RX3) (T := TX3) (N := 6) (n := 6) hts (fun w h => hf (cl_in3 w h)) (hts _ ins_w.2.2.2.1)
  obtain ⟨c4, i4, h4⟩ := u_known (C := RX4) (T := TX4) (N := 12) (n := 12) hts (fun w h => hf (cl_in4 w h)) (hts _ ins_w.2.2.2.2.1)
  obtain ⟨c5, i5, h5⟩ := u_known (C := RX5) (T := TX5) (N := 8) (n := 8) hts (fun w h => hf (cl_in5 w h)) (hts _ ins_w.2.2.2.2.2.1)
  obtain ⟨c6, i6, h6⟩ := u_known (C := RX6) (T := TX6) (N := 47) (n := 47) hts (fun w h => hf (cl_in6 w h)) (hts _ ins_w.2.2.2.2.2.2)
  obtain ⟨aI, hI1, hI2⟩ := ar_c (hts _ ao_w.2.2.1)
  obtain ⟨aZ, hZ1, hZ2⟩ := ar_c (hts _ ao_w.2.2.2)
  obtain ⟨aB, hB1, hB2⟩ := ar_o (hts _ ao_w.1)
  obtain ⟨aS, hS1, hS2⟩ := ar_o (hts _ ao_w.2.1)
  refine ⟨(fun k => match k with | 0 => c0 | 1 => c1 | 2 => c2 | 3 => c3 | 4 => c4 | 5 => c5 | _ => c6, fun k => match k with | 0 => i0 | 1 => i1 | 2 => i2 | 3 => i3 | 4 => i4 | 5 => i5 | _ => i6), fun t => match t with | 0 => aI | 1 => aZ | 2 => aB | _ => aS, ⟨?_, ?_⟩, ?_, va_AO.of (hts _ ao_w.1), va_AO.of (hts _ ao_w.2.1)⟩
  · intro k q hq
    match k, hq with
    | 0, hq => cases hq; exact h0
    | 1, hq => cases hq; exact h1
    | 2, hq => cases hq; exact h2
    | 3, hq => cases hq; exact h3
    | 4, hq => cases hq; exact h4
    | 5, hq => cases hq; exact h5
    | 6, hq => cases hq; exact h6
    | k + 7, hq => simp [vwCl] at hq
  · intro k q hq
    match k, hq with
    | 0, hq => cases hq; exact ⟨hI2, hI1⟩
    | 1, hq => cases hq; exact ⟨hZ2, hZ1⟩
    | 2, hq => cases hq; exact ⟨hB1, hB2⟩
    | 3, hq => cases hq; exact ⟨hS1, hS2⟩
    | k + 4, hq => simp [ce_tys] at hq
  · intro q hq
    exact va_Nw.of rfl (hts _ (ix_w q hq))
/-- the law's walk, out of the judgement -/
theorem law_of {p : Program} {e : Env} {s : State} {m : MethodId} {below : List Frame} {meth : Method} {c : Code} (l : Launch) {b L : Nat} {xs : Nat → Int32} (hL : L ≤ 2560) (C0 : lw_At p s m meth c b L xs)
    (h : EV (some (L, xs)) 2000 600000 7302250 mL_law 0 [some pv_s, none, none, none] [] [] (fun _ _ => 0) (fun _ _ => none) (fun v _ _ _ => v = some (pv_i 1))) :
    W p l e room_1 s m #[Value.ref b] below meth c s.heap [] 0 0 (lw_Z below #[Value.ref b] s) (entryFrame m ([Value.ref b] : List Value).toArray 4) := by
  obtain ⟨hx, hb, hr, hml, hown, hts, hX, hbl, hlocks, hgv⟩ := C0
  obtain ⟨D, cA, hK⟩ := kk_of hts
  rw [lg_entry_eq]
  have hl : lh_c ((lg_sl ([.ref b]) ++ List.replicate (4 - (lg_sl ([.ref b])).length) Slot.unset).toArray) 4 b id (en_l mL_law [pv_s]) := en_has (M := mL_law) (b := b) (ad := id) (av := [pv_s]) (by decide)
  refine h p l e room_1 s m #[Value.ref b] below meth c D cA (fun q => s.heap.size ≤ q) b _ id s.heap [] 0 0 _ ⟨hx, hb, hr, hml, hown, fun w hw => hts w (List.mem_filter.mp hw).1, hlocks, fun h => absurd h (by decide), hK, fun q h => h⟩ (fun n ys he => ?_) ⟨by decide, by decide, by decide, by decide⟩ ⟨fun k q hq => by simp [ce_ws] at hq, ⟨fun i j p q hp => by simp [ce_ws] at hp, fun k q hq => by simp [ce_ws] at hq⟩, va_S.rf⟩ hl ?_
  · cases he
    exact ⟨hX, hbl, Nat.not_le.mpr hbl⟩
  · intro v sh2 mi2 mr2 ad2 H2 locs2 cells2 slots2 pc2 ls2 hPo hex hW hcs hrt
    subst hPo
    refine va_forget (fun q hq => hW.2.2.2.2 q hq) ?_
    refine W.widen (k := 600000) (n := 7302250) (by omega) (by omega) ?_
    exact lw_ret hx hb hr hlocks hrt.1
end
section
theorem tb_at (i : Nat) {w : Cond} (h : lw_tbl[i]? = some w) (g : goodWord w = true) : w ∈ tb_w := tb_of (List.mem_of_getElem? h) g
set_option maxRecDepth 100000 in
theorem oi_X0_3 : Cond.methodLink RX0 3 objectInit ∈ tb_w := tb_at 206 (by decide +kernel) (by decide +kernel)
set_option maxRecDepth 100000 in
theorem fl_X0_9 : fl_c RX0 9 0 0 := ⟨by decide, by decide, tb_at 207 (by decide +kernel) (by decide +kernel)⟩
set_option maxRecDepth 100000 in
theorem fl_X0_15 : fl_c RX0 15 0 1 := ⟨by decide, by decide, tb_at 208 (by decide +kernel) (by decide +kernel)⟩
set_option maxRecDepth 100000 in
theorem fl_X0_18 : fl_c RX0 18 0 2 := ⟨by decide, by decide, tb_at 210 (by decide +kernel) (by decide +kernel)⟩
set_option maxRecDepth 100000 in
theorem fl_X0_21 : fl_c RX0 21 0 3 := ⟨by decide, by decide, tb_at 212 (by decide +kernel) (by decide +kernel)⟩
set_option maxRecDepth 100000 in
theorem fl_X0_24 : fl_c RX0 24 0 4 := ⟨by decide, by decide, tb_at 214 (by decide +kernel) (by decide +kernel)⟩
set_option maxRecDepth 100000 in
theorem fl_X0_27 : fl_c RX0 27 0 5 := ⟨by decide, by decide, tb_at 217 (by decide +kernel) (by decide +kernel)⟩
set_option maxRecDepth 100000 in
theorem fl_X0_31 : fl_c RX0 31 0 6 := ⟨by decide, by decide, tb_at 219 (by decide +kernel) (by decide +kernel)⟩
set_option maxRecDepth 100000 in
theorem fl_X0_34 : fl_c RX0 34 0 7 := ⟨by decide, by decide, tb_at 221 (by decide +kernel) (by decide +kernel)⟩
set_option maxRecDepth 100000 in
theorem fl_X0_37 : fl_c RX0 37 0 8 := ⟨by decide, by decide, tb_at 222 (by decide +kernel) (by decide +kernel)⟩
set_option maxRecDepth 100000 in
theorem fl_X0_40 : fl_c RX0 40 0 9 := ⟨by decide, by decide, tb_at 225 (by decide +kernel) (by decide +kernel)⟩
set_option maxRecDepth 100000 in
theorem fl_X0_43 : fl_c RX0 43 0 10 := ⟨by decide, by decide, tb_at 228 (by decide +kernel) (by decide +kernel)⟩
set_option maxRecDepth 100000 in
theorem cm_X0_allOf : cm_c mX0_allOf 1 := ⟨tb_at 271 (by decide +kernel) (by decide +kernel), tb_at 30 (by decide +kernel) (by decide +kernel), ⟨by decide +kernel, by decide +kernel, by decide +kernel⟩, by decide, by decide +kernel⟩
set_option maxRecDepth 100000 in
theorem cs_X0_46 : cs_c RX0 46 mX0_allOf 1 := ⟨tb_at 269 (by decide +kernel) (by decide +kernel), tb_at 270 (by decide +kernel) (by decide +kernel), cm_X0_allOf, by decide⟩
set_option maxRecDepth 100000 in
theorem cm_X5_within : cm_c mX5_within 3 := ⟨tb_at 264 (by decide +kernel) (by decide +kernel), tb_at 25 (by decide +kernel) (by decide +kernel), ⟨by decide +kernel, by decide +kernel, by decide +kernel⟩, by decide, by decide +kernel⟩
set_option maxRecDepth 100000 in
theorem cn_X0_50 : cn_c RX0 50 mX5_within 3 := ⟨by decide +kernel, tb_at 263 (by decide +kernel) (by decide +kernel), cm_X5_within, by decide⟩
set_option maxRecDepth 100000 in
theorem cm_J6_bitCount_0f7a4 : cm_c mJ6_bitCount_0f7a4 1 := ⟨tb_at 291 (by decide +kernel) (by decide +kernel), tb_at 31 (by decide +kernel) (by decide +kernel), ⟨by decide +kernel, by decide +kernel, by decide +kernel⟩, by decide, by decide +kernel⟩
set_option maxRecDepth 100000 in
theorem cs_X0_54 : cs_c RX0 54 mJ6_bitCount_0f7a4 1 := ⟨tb_at 289 (by decide +kernel) (by decide +kernel), tb_at 290 (by decide +kernel) (by decide +kernel), cm_J6_bitCount_0f7a4, by decide⟩
set_option maxRecDepth 100000 in
theorem oi_X1_3 : Cond.methodLink RX1 3 objectInit ∈ tb_w := tb_at 145 (by decide +kernel) (by decide +kernel)
set_option maxRecDepth 100000 in
theorem fl_X1_9 : fl_c RX1 9 1 0 := ⟨by decide, by decide, tb_at 146 (by decide +kernel) (by decide +kernel)⟩
set_option maxRecDepth 100000 in
theorem fl_X1_15 : fl_c RX1 15 1 1 := ⟨by decide, by decide, tb_at 148 (by decide +kernel) (by decide +kernel)⟩
set_option maxRecDepth 100000 in
theorem fl_X1_18 : fl_c RX1 18 1 2 := ⟨by decide, by decide, tb_at 150 (by decide +kernel) (by decide +kernel)⟩
set_option maxRecDepth 100000 in
theorem fl_X1_22 : fl_c RX1 22 1 3 := ⟨by decide, by decide, tb_at 151 (by decide +kernel) (by decide +kernel)⟩
set_option maxRecDepth 100000 in
theorem fl_X1_25 : fl_c RX1 25 1 4 := ⟨by decide, by decide, tb_at 152 (by decide +kernel) (by decide +kernel)⟩
set_option maxRecDepth 100000 in
theorem fl_X1_28 : fl_c RX1 28 1 5 := ⟨by decide, by decide, tb_at 153 (by decide +kernel) (by decide +kernel)⟩
set_option maxRecDepth 100000 in
theorem fl_X1_31 : fl_c RX1 31 1 6 := ⟨by decide, by decide, tb_at 154 (by decide +kernel) (by decide +kernel)⟩
set_option maxRecDepth 100000 in
theorem fl_X1_34 : fl_c RX1 34 1 7 := ⟨by decide, by decide, tb_at 155 (by decide +kernel) (by decide +kernel)⟩
set_option maxRecDepth 100000 in
theorem cn_X1_37 : cn_c RX1 37 mX5_within 3 := ⟨by decide +kernel, tb_at 263 (by decide +kernel) (by decide +kernel), cm_X5_within, by decide⟩
set_option maxRecDepth 100000 in
theorem cm_X1_penceAt : cm_c mX1_penceAt 3 := ⟨tb_at 582 (by decide +kernel) (by decide +kernel), tb_at 28 (by decide +kernel) (by decide +kernel), ⟨by decide +kernel, by decide +kernel, by decide +kernel⟩, by decide, by decide +kernel⟩
set_option maxRecDepth 100000 in
theorem cv_X1_41 : cv_c RX1 41 mX1_penceAt 1 3 := ⟨by decide, rfl, tb_at 592 (by decide +kernel) (by decide +kernel), tb_at 580 (by decide +kernel) (by decide +kernel), tb_at 581 (by decide +kernel) (by decide +kernel), cm_X1_penceAt, by decide⟩
set_option maxRecDepth 100000 in
theorem oi_X2_3 : Cond.methodLink RX2 3 objectInit ∈ tb_w := tb_at 49 (by decide +kernel) (by decide +kernel)
set_option maxRecDepth 100000 in
theorem fl_X2_9 : fl_c RX2 9 2 0 := ⟨by decide, by decide, tb_at 50 (by decide +kernel) (by decide +kernel)⟩
set_option maxRecDepth 100000 in
theorem fl_X2_15 : fl_c RX2 15 2 1 := ⟨by decide, by decide, tb_at 52 (by decide +kernel) (by decide +kernel)⟩
set_option maxRecDepth 100000 in
theorem fl_X2_18 : fl_c RX2 18 2 2 := ⟨by decide, by decide, tb_at 53 (by decide +kernel) (by decide +kernel)⟩
set_option maxRecDepth 100000 in
theorem fl_X2_21 : fl_c RX2 21 2 3 := ⟨by decide, by decide, tb_at 54 (by decide +kernel) (by decide +kernel)⟩
set_option maxRecDepth 100000 in
theorem fl_X2_24 : fl_c RX2 24 2 4 := ⟨by decide, by decide, tb_at 55 (by decide +kernel) (by decide +kernel)⟩
set_option maxRecDepth 100000 in
theorem fl_X2_27 : fl_c RX2 27 2 5 := ⟨by decide, by decide, tb_at 56 (by decide +kernel) (by decide +kernel)⟩
set_option maxRecDepth 100000 in
theorem fl_X2_30 : fl_c RX2 30 2 6 := ⟨by decide, by decide, tb_at 57 (by decide +kernel) (by decide +kernel)⟩
set_option maxRecDepth 100000 in
theorem fl_X2_33 : fl_c RX2 33 2 7 := ⟨by decide, by decide, tb_at 58 (by decide +kernel) (by decide +kernel)⟩
set_option maxRecDepth 100000 in
theorem fl_X2_36 : fl_c RX2 36 2 8 := ⟨by decide, by decide, tb_at 59 (by decide +kernel) (by decide +kernel)⟩
set_option maxRecDepth 100000 in
theorem fl_X2_39 : fl_c RX2 39 2 9 := ⟨by decide, by decide, tb_at 60 (by decide +kernel) (by decide +kernel)⟩
set_option maxRecDepth 100000 in
theorem fl_X2_43 : fl_c RX2 43 2 10 := ⟨by decide, by decide, tb_at 61 (by decide +kernel) (by decide +kernel)⟩
set_option maxRecDepth 100000 in
theorem fl_X2_46 : fl_c RX2 46 2 11 := ⟨by decide, by decide, tb_at 62 (by decide +kernel) (by decide +kernel)⟩
set_option maxRecDepth 100000 in
theorem fl_X2_49 : fl_c RX2 49 0 4 := ⟨by decide, by decide, tb_at 215 (by decide +kernel) (by decide +kernel)⟩
set_option maxRecDepth 100000 in
theorem fl_X2_52 : fl_c RX2 52 0 8 := ⟨by decide, by decide, tb_at 223 (by decide +kernel) (by decide +kernel)⟩
set_option maxRecDepth 100000 in
theorem fl_X2_54 : fl_c RX2 54 0 9 := ⟨by decide, by decide, tb_at 226 (by decide +kernel) (by decide +kernel)⟩
set_option maxRecDepth 100000 in
theorem fl_X2_56 : fl_c RX2 56 0 10 := ⟨by decide, by decide, tb_at 229 (by decide +kernel) (by decide +kernel)⟩
set_option maxRecDepth 100000 in
theorem kc_X2_59 : Cond.constant RX2 59 1000000000 ∈ tb_w := tb_at 359 (by decide +kernel) (by decide +kernel)
set_option maxRecDepth 100000 in
theorem cm_X2_search : cm_c mX2_search 3 := ⟨tb_at 363 (by decide +kernel) (by decide +kernel), tb_at 26 (by decide +kernel) (by decide +kernel), ⟨by decide +kernel, by decide +kernel, by decide +kernel⟩, by decide, by decide +kernel⟩
set_option maxRecDepth 100000 in
theorem cv_X2_60 : cv_c RX2 60 mX2_search 2 3 := ⟨by decide, rfl, tb_at 360 (by decide +kernel) (by decide +kernel), tb_at 362 (by decide +kernel) (by decide +kernel), tb_at 1 (by decide +kernel) (by decide +kernel), cm_X2_search, by decide⟩
set_option maxRecDepth 100000 in
theorem cm_X2_work : cm_c mX2_work 2 := ⟨tb_at 367 (by decide +kernel) (by decide +kernel), tb_at 26 (by decide +kernel) (by decide +kernel), ⟨by decide +kernel, by decide +kernel, by decide +kernel⟩, by decide, by decide +kernel⟩
set_option maxRecDepth 100000 in
theorem cv_X2_64 : cv_c RX2 64 mX2_work 2 2 := ⟨by decide, rfl, tb_at 364 (by decide +kernel) (by decide +kernel), tb_at 366 (by decide +kernel) (by decide +kernel), tb_at 2 (by decide +kernel) (by decide +kernel), cm_X2_work, by decide⟩
set_option maxRecDepth 100000 in
theorem cn_X2_68 : cn_c RX2 68 mX5_within 3 := ⟨by decide +kernel, tb_at 263 (by decide +kernel) (by decide +kernel), cm_X5_within, by decide⟩
set_option maxRecDepth 100000 in
theorem cm_X2_numberAt : cm_c mX2_numberAt 1 := ⟨tb_at 387 (by decide +kernel) (by decide +kernel), tb_at 26 (by decide +kernel) (by decide +kernel), ⟨by decide +kernel, by decide +kernel, by decide +kernel⟩, by decide, by decide +kernel⟩
set_option maxRecDepth 100000 in
theorem cv_X2_72 : cv_c RX2 72 mX2_numberAt 2 1 := ⟨by decide, rfl, tb_at 396 (by decide +kernel) (by decide +kernel), tb_at 385 (by decide +kernel) (by decide +kernel), tb_at 386 (by decide +kernel) (by decide +kernel), cm_X2_numberAt, by decide⟩
set_option maxRecDepth 100000 in
theorem mx_X2_76 : Cond.methodLink RX2 76 Lib.Math.max.name ∈ tb_w ∧ Cond.static Lib.Math.max.name ∈ tb_w ∧ Cond.initialized "java/lang/Math" ∈ tb_w ∧ Cond.code Lib.Math.max.name Lib.Math.max.code 2 (some .int) ∈ tb_w := ⟨tb_at 368 (by decide +kernel) (by decide +kernel), tb_at 369 (by decide +kernel) (by decide +kernel), tb_at 32 (by decide +kernel) (by decide +kernel), tb_at 370 (by decide +kernel) (by decide +kernel)⟩
set_option maxRecDepth 100000 in
theorem cm_X2_keepTrial : cm_c mX2_keepTrial 2 := ⟨tb_at 374 (by decide +kernel) (by decide +kernel), tb_at 26 (by decide +kernel) (by decide +kernel), ⟨by decide +kernel, by decide +kernel, by decide +kernel⟩, by decide, by decide +kernel⟩
set_option maxRecDepth 100000 in
theorem cv_X2_81 : cv_c RX2 81 mX2_keepTrial 2 2 := ⟨by decide, rfl, tb_at 371 (by decide +kernel) (by decide +kernel), tb_at 373 (by decide +kernel) (by decide +kernel), tb_at 3 (by decide +kernel) (by decide +kernel), cm_X2_keepTrial, by decide⟩
set_option maxRecDepth 100000 in
theorem oi_X3_3 : Cond.methodLink RX3 3 objectInit ∈ tb_w := tb_at 480 (by decide +kernel) (by decide +kernel)
set_option maxRecDepth 100000 in
theorem fl_X3_9 : fl_c RX3 9 3 4 := ⟨by decide, by decide, tb_at 486 (by decide +kernel) (by decide +kernel)⟩
set_option maxRecDepth 100000 in
theorem fl_X3_15 : fl_c RX3 15 3 5 := ⟨by decide, by decide, tb_at 487 (by decide +kernel) (by decide +kernel)⟩
set_option maxRecDepth 100000 in
theorem fl_X3_18 : fl_c RX3 18 3 1 := ⟨by decide, by decide, tb_at 483 (by decide +kernel) (by decide +kernel)⟩
set_option maxRecDepth 100000 in
theorem fl_X3_21 : fl_c RX3 21 3 2 := ⟨by decide, by decide, tb_at 484 (by decide +kernel) (by decide +kernel)⟩
set_option maxRecDepth 100000 in
theorem fl_X3_24 : fl_c RX3 24 3 0 := ⟨by decide, by decide, tb_at 481 (by decide +kernel) (by decide +kernel)⟩
set_option maxRecDepth 100000 in
theorem fl_X3_27 : fl_c RX3 27 3 3 := ⟨by decide, by decide, tb_at 485 (by decide +kernel) (by decide +kernel)⟩
set_option maxRecDepth 100000 in
theorem cn_X3_31 : cn_c RX3 31 mX5_within 3 := ⟨by decide +kernel, tb_at 263 (by decide +kernel) (by decide +kernel), cm_X5_within, by decide⟩
set_option maxRecDepth 100000 in
theorem cm_X3_cutHere : cm_c mX3_cutHere 4 := ⟨tb_at 533 (by decide +kernel) (by decide +kernel), tb_at 33 (by decide +kernel) (by decide +kernel), ⟨by decide +kernel, by decide +kernel, by decide +kernel⟩, by decide, by decide +kernel⟩
set_option maxRecDepth 100000 in
theorem cv_X3_35 : cv_c RX3 35 mX3_cutHere 3 4 := ⟨by decide, rfl, tb_at 530 (by decide +kernel) (by decide +kernel), tb_at 532 (by decide +kernel) (by decide +kernel), tb_at 7 (by decide +kernel) (by decide +kernel), cm_X3_cutHere, by decide⟩
set_option maxRecDepth 100000 in
theorem cm_X3_cutCover : cm_c mX3_cutCover 2 := ⟨tb_at 529 (by decide +kernel) (by decide +kernel), tb_at 33 (by decide +kernel) (by decide +kernel), ⟨by decide +kernel, by decide +kernel, by decide +kernel⟩, by decide, by decide +kernel⟩
set_option maxRecDepth 100000 in
theorem cv_X3_39 : cv_c RX3 39 mX3_cutCover 3 2 := ⟨by decide, rfl, tb_at 547 (by decide +kernel) (by decide +kernel), tb_at 527 (by decide +kernel) (by decide +kernel), tb_at 528 (by decide +kernel) (by decide +kernel), cm_X3_cutCover, by decide⟩
set_option maxRecDepth 100000 in
theorem cm_X3_isFree : cm_c mX3_isFree 4 := ⟨tb_at 537 (by decide +kernel) (by decide +kernel), tb_at 33 (by decide +kernel) (by decide +kernel), ⟨by decide +kernel, by decide +kernel, by decide +kernel⟩, by decide, by decide +kernel⟩
set_option maxRecDepth 100000 in
theorem cv_X3_43 : cv_c RX3 43 mX3_isFree 3 4 := ⟨by decide, rfl, tb_at 534 (by decide +kernel) (by decide +kernel), tb_at 536 (by decide +kernel) (by decide +kernel), tb_at 8 (by decide +kernel) (by decide +kernel), cm_X3_isFree, by decide⟩
set_option maxRecDepth 100000 in
theorem cm_X3_fill : cm_c mX3_fill 5 := ⟨tb_at 521 (by decide +kernel) (by decide +kernel), tb_at 33 (by decide +kernel) (by decide +kernel), ⟨by decide +kernel, by decide +kernel, by decide +kernel⟩, by decide, by decide +kernel⟩
set_option maxRecDepth 100000 in
theorem cv_X3_46 : cv_c RX3 46 mX3_fill 3 5 := ⟨by decide, rfl, tb_at 538 (by decide +kernel) (by decide +kernel), tb_at 519 (by decide +kernel) (by decide +kernel), tb_at 520 (by decide +kernel) (by decide +kernel), cm_X3_fill, by decide⟩
set_option maxRecDepth 100000 in
theorem oi_X4_3 : Cond.methodLink RX4 3 objectInit ∈ tb_w := tb_at 94 (by decide +kernel) (by decide +kernel)
set_option maxRecDepth 100000 in
theorem fl_X4_9 : fl_c RX4 9 4 0 := ⟨by decide, by decide, tb_at 95 (by decide +kernel) (by decide +kernel)⟩
set_option maxRecDepth 100000 in
theorem fl_X4_15 : fl_c RX4 15 4 1 := ⟨by decide, by decide, tb_at 97 (by decide +kernel) (by decide +kernel)⟩
set_option maxRecDepth 100000 in
theorem fl_X4_18 : fl_c RX4 18 4 2 := ⟨by decide, by decide, tb_at 99 (by decide +kernel) (by decide +kernel)⟩
set_option maxRecDepth 100000 in
theorem fl_X4_21 : fl_c RX4 21 4 3 := ⟨by decide, by decide, tb_at 101 (by decide +kernel) (by decide +kernel)⟩
set_option maxRecDepth 100000 in
theorem fl_X4_25 : fl_c RX4 25 4 4 := ⟨by decide, by decide, tb_at 103 (by decide +kernel) (by decide +kernel)⟩
set_option maxRecDepth 100000 in
theorem fl_X4_28 : fl_c RX4 28 4 5 := ⟨by decide, by decide, tb_at 105 (by decide +kernel) (by decide +kernel)⟩
set_option maxRecDepth 100000 in
theorem fl_X4_31 : fl_c RX4 31 4 6 := ⟨by decide, by decide, tb_at 107 (by decide +kernel) (by decide +kernel)⟩
set_option maxRecDepth 100000 in
theorem fl_X4_34 : fl_c RX4 34 4 7 := ⟨by decide, by decide, tb_at 108 (by decide +kernel) (by decide +kernel)⟩
set_option maxRecDepth 100000 in
theorem fl_X4_37 : fl_c RX4 37 4 8 := ⟨by decide, by decide, tb_at 109 (by decide +kernel) (by decide +kernel)⟩
set_option maxRecDepth 100000 in
theorem fl_X4_40 : fl_c RX4 40 4 9 := ⟨by decide, by decide, tb_at 110 (by decide +kernel) (by decide +kernel)⟩
set_option maxRecDepth 100000 in
theorem fl_X4_43 : fl_c RX4 43 4 10 := ⟨by decide, by decide, tb_at 111 (by decide +kernel) (by decide +kernel)⟩
set_option maxRecDepth 100000 in
theorem fl_X4_46 : fl_c RX4 46 4 11 := ⟨by decide, by decide, tb_at 112 (by decide +kernel) (by decide +kernel)⟩
set_option maxRecDepth 100000 in
theorem cm_X4_readWords : cm_c mX4_readWords 0 := ⟨tb_at 431 (by decide +kernel) (by decide +kernel), tb_at 27 (by decide +kernel) (by decide +kernel), ⟨by decide +kernel, by decide +kernel, by decide +kernel⟩, by decide, by decide +kernel⟩
set_option maxRecDepth 100000 in
theorem cv_X4_49 : cv_c RX4 49 mX4_readWords 4 0 := ⟨by decide, rfl, tb_at 428 (by decide +kernel) (by decide +kernel), tb_at 429 (by decide +kernel) (by decide +kernel), tb_at 430 (by decide +kernel) (by decide +kernel), cm_X4_readWords, by decide⟩
set_option maxRecDepth 100000 in
theorem kc_X4_53 : Cond.constant RX4 53 1000000000 ∈ tb_w := tb_at 432 (by decide +kernel) (by decide +kernel)
set_option maxRecDepth 100000 in
theorem cm_X4_weigh : cm_c mX4_weigh 3 := ⟨tb_at 436 (by decide +kernel) (by decide +kernel), tb_at 27 (by decide +kernel) (by decide +kernel), ⟨by decide +kernel, by decide +kernel, by decide +kernel⟩, by decide, by decide +kernel⟩
set_option maxRecDepth 100000 in
theorem cv_X4_54 : cv_c RX4 54 mX4_weigh 4 3 := ⟨by decide, rfl, tb_at 433 (by decide +kernel) (by decide +kernel), tb_at 435 (by decide +kernel) (by decide +kernel), tb_at 4 (by decide +kernel) (by decide +kernel), cm_X4_weigh, by decide⟩
set_option maxRecDepth 100000 in
theorem cm_X4_layOut : cm_c mX4_layOut 1 := ⟨tb_at 440 (by decide +kernel) (by decide +kernel), tb_at 27 (by decide +kernel) (by decide +kernel), ⟨by decide +kernel, by decide +kernel, by decide +kernel⟩, by decide, by decide +kernel⟩
set_option maxRecDepth 100000 in
theorem cv_X4_58 : cv_c RX4 58 mX4_layOut 4 1 := ⟨by decide, rfl, tb_at 437 (by decide +kernel) (by decide +kernel), tb_at 439 (by decide +kernel) (by decide +kernel), tb_at 5 (by decide +kernel) (by decide +kernel), cm_X4_layOut, by decide⟩
set_option maxRecDepth 100000 in
theorem oi_X5_3 : Cond.methodLink RX5 3 objectInit ∈ tb_w := tb_at 39 (by decide +kernel) (by decide +kernel)
set_option maxRecDepth 100000 in
theorem nq_X5_9 : Cond.classLink RX5 9 "Bindery$Book" ∈ tb_w := tb_at 42 (by decide +kernel) (by decide +kernel)
set_option maxRecDepth 100000 in
theorem fl_X5_11 : fl_c RX5 11 5 0 := ⟨by decide, by decide, tb_at 173 (by decide +kernel) (by decide +kernel)⟩
set_option maxRecDepth 100000 in
theorem nw_X5_15 : Cond.classLink RX5 15 (cl_R 2) ∈ tb_w := tb_at 44 (by decide +kernel) (by decide +kernel)
set_option maxRecDepth 100000 in
theorem cm_X2_init : cm_c mX2_init 0 := ⟨tb_at 48 (by decide +kernel) (by decide +kernel), tb_at 26 (by decide +kernel) (by decide +kernel), ⟨by decide +kernel, by decide +kernel, by decide +kernel⟩, by decide, by decide +kernel⟩
set_option maxRecDepth 100000 in
theorem ci_X5_17 : ci_c RX5 17 mX2_init 0 := ⟨Or.inr (by decide +kernel), tb_at 47 (by decide +kernel) (by decide +kernel), rfl, rfl, cm_X2_init, by decide⟩
set_option maxRecDepth 100000 in
theorem fl_X5_18 : fl_c RX5 18 5 1 := ⟨by decide, by decide, tb_at 174 (by decide +kernel) (by decide +kernel)⟩
set_option maxRecDepth 100000 in
theorem nw_X5_22 : Cond.classLink RX5 22 (cl_R 4) ∈ tb_w := tb_at 89 (by decide +kernel) (by decide +kernel)
set_option maxRecDepth 100000 in
theorem cm_X4_init : cm_c mX4_init 0 := ⟨tb_at 93 (by decide +kernel) (by decide +kernel), tb_at 27 (by decide +kernel) (by decide +kernel), ⟨by decide +kernel, by decide +kernel, by decide +kernel⟩, by decide, by decide +kernel⟩
set_option maxRecDepth 100000 in
theorem ci_X5_24 : ci_c RX5 24 mX4_init 0 := ⟨Or.inl (tb_at 91 (by decide +kernel) (by decide +kernel)), tb_at 92 (by decide +kernel) (by decide +kernel), rfl, rfl, cm_X4_init, by decide⟩
set_option maxRecDepth 100000 in
theorem fl_X5_25 : fl_c RX5 25 5 2 := ⟨by decide, by decide, tb_at 175 (by decide +kernel) (by decide +kernel)⟩
set_option maxRecDepth 100000 in
theorem nq_X5_29 : Cond.classLink RX5 29 "Bindery$Skin" ∈ tb_w := tb_at 138 (by decide +kernel) (by decide +kernel)
set_option maxRecDepth 100000 in
theorem fl_X5_31 : fl_c RX5 31 5 3 := ⟨by decide, by decide, tb_at 176 (by decide +kernel) (by decide +kernel)⟩
set_option maxRecDepth 100000 in
theorem nw_X5_35 : Cond.classLink RX5 35 (cl_R 1) ∈ tb_w := tb_at 140 (by decide +kernel) (by decide +kernel)
set_option maxRecDepth 100000 in
theorem cm_X1_init : cm_c mX1_init 0 := ⟨tb_at 144 (by decide +kernel) (by decide +kernel), tb_at 28 (by decide +kernel) (by decide +kernel), ⟨by decide +kernel, by decide +kernel, by decide +kernel⟩, by decide, by decide +kernel⟩
set_option maxRecDepth 100000 in
theorem ci_X5_37 : ci_c RX5 37 mX1_init 0 := ⟨Or.inr (by decide +kernel), tb_at 143 (by decide +kernel) (by decide +kernel), rfl, rfl, cm_X1_init, by decide⟩
set_option maxRecDepth 100000 in
theorem fl_X5_38 : fl_c RX5 38 5 4 := ⟨by decide, by decide, tb_at 177 (by decide +kernel) (by decide +kernel)⟩
set_option maxRecDepth 100000 in
theorem fl_X5_42 : fl_c RX5 42 5 5 := ⟨by decide, by decide, tb_at 178 (by decide +kernel) (by decide +kernel)⟩
set_option maxRecDepth 100000 in
theorem fl_X5_46 : fl_c RX5 46 5 6 := ⟨by decide, by decide, tb_at 179 (by decide +kernel) (by decide +kernel)⟩
set_option maxRecDepth 100000 in
theorem fl_X5_49 : fl_c RX5 49 5 7 := ⟨by decide, by decide, tb_at 180 (by decide +kernel) (by decide +kernel)⟩
set_option maxRecDepth 100000 in
theorem nw_X5_9 : Cond.classLink RX5 9 (cl_R 0) ∈ tb_w := tb_at 42 (by decide +kernel) (by decide +kernel)
set_option maxRecDepth 100000 in
theorem cm_X0_init : cm_c mX0_init 0 := ⟨tb_at 205 (by decide +kernel) (by decide +kernel), tb_at 30 (by decide +kernel) (by decide +kernel), ⟨by decide +kernel, by decide +kernel, by decide +kernel⟩, by decide, by decide +kernel⟩
set_option maxRecDepth 100000 in
theorem ci_X5_52 : ci_c RX5 52 mX0_init 0 := ⟨Or.inl (tb_at 203 (by decide +kernel) (by decide +kernel)), tb_at 204 (by decide +kernel) (by decide +kernel), rfl, rfl, cm_X0_init, by decide⟩
set_option maxRecDepth 100000 in
theorem cm_X5_bookAt : cm_c mX5_bookAt 1 := ⟨tb_at 261 (by decide +kernel) (by decide +kernel), tb_at 25 (by decide +kernel) (by decide +kernel), ⟨by decide +kernel, by decide +kernel, by decide +kernel⟩, by decide, by decide +kernel⟩
set_option maxRecDepth 100000 in
theorem cv_X5_53 : cv_c RX5 53 mX5_bookAt 5 1 := ⟨by decide, rfl, tb_at 258 (by decide +kernel) (by decide +kernel), tb_at 260 (by decide +kernel) (by decide +kernel), tb_at 0 (by decide +kernel) (by decide +kernel), cm_X5_bookAt, by decide⟩
set_option maxRecDepth 100000 in
theorem cs_X5_57 : cs_c RX5 57 mX5_within 3 := ⟨tb_at 262 (by decide +kernel) (by decide +kernel), tb_at 263 (by decide +kernel) (by decide +kernel), cm_X5_within, by decide⟩
set_option maxRecDepth 100000 in
theorem fl_X5_61 : fl_c RX5 61 0 6 := ⟨by decide, by decide, tb_at 220 (by decide +kernel) (by decide +kernel)⟩
set_option maxRecDepth 100000 in
theorem cm_X0_addGathering : cm_c mX0_addGathering 1 := ⟨tb_at 268 (by decide +kernel) (by decide +kernel), tb_at 30 (by decide +kernel) (by decide +kernel), ⟨by decide +kernel, by decide +kernel, by decide +kernel⟩, by decide, by decide +kernel⟩
set_option maxRecDepth 100000 in
theorem cv_X5_64 : cv_c RX5 64 mX0_addGathering 0 1 := ⟨by decide, rfl, tb_at 265 (by decide +kernel) (by decide +kernel), tb_at 266 (by decide +kernel) (by decide +kernel), tb_at 267 (by decide +kernel) (by decide +kernel), cm_X0_addGathering, by decide⟩
set_option maxRecDepth 100000 in
theorem cm_X0_hasGathering : cm_c mX0_hasGathering 1 := ⟨tb_at 279 (by decide +kernel) (by decide +kernel), tb_at 30 (by decide +kernel) (by decide +kernel), ⟨by decide +kernel, by decide +kernel, by decide +kernel⟩, by decide, by decide +kernel⟩
set_option maxRecDepth 100000 in
theorem cv_X5_68 : cv_c RX5 68 mX0_hasGathering 0 1 := ⟨by decide, rfl, tb_at 276 (by decide +kernel) (by decide +kernel), tb_at 277 (by decide +kernel) (by decide +kernel), tb_at 278 (by decide +kernel) (by decide +kernel), cm_X0_hasGathering, by decide⟩
set_option maxRecDepth 100000 in
theorem cm_X0_hasLeaves : cm_c mX0_hasLeaves 2 := ⟨tb_at 284 (by decide +kernel) (by decide +kernel), tb_at 30 (by decide +kernel) (by decide +kernel), ⟨by decide +kernel, by decide +kernel, by decide +kernel⟩, by decide, by decide +kernel⟩
set_option maxRecDepth 100000 in
theorem cv_X5_72 : cv_c RX5 72 mX0_hasLeaves 0 2 := ⟨by decide, rfl, tb_at 281 (by decide +kernel) (by decide +kernel), tb_at 282 (by decide +kernel) (by decide +kernel), tb_at 283 (by decide +kernel) (by decide +kernel), cm_X0_hasLeaves, by decide⟩
set_option maxRecDepth 100000 in
theorem cm_X0_inspect : cm_c mX0_inspect 2 := ⟨tb_at 288 (by decide +kernel) (by decide +kernel), tb_at 30 (by decide +kernel) (by decide +kernel), ⟨by decide +kernel, by decide +kernel, by decide +kernel⟩, by decide, by decide +kernel⟩
set_option maxRecDepth 100000 in
theorem cv_X5_76 : cv_c RX5 76 mX0_inspect 0 2 := ⟨by decide, rfl, tb_at 285 (by decide +kernel) (by decide +kernel), tb_at 286 (by decide +kernel) (by decide +kernel), tb_at 287 (by decide +kernel) (by decide +kernel), cm_X0_inspect, by decide⟩
set_option maxRecDepth 100000 in
theorem cm_X0_mayMoveOn : cm_c mX0_mayMoveOn 0 := ⟨tb_at 302 (by decide +kernel) (by decide +kernel), tb_at 30 (by decide +kernel) (by decide +kernel), ⟨by decide +kernel, by decide +kernel, by decide +kernel⟩, by decide, by decide +kernel⟩
set_option maxRecDepth 100000 in
theorem cv_X5_80 : cv_c RX5 80 mX0_mayMoveOn 0 0 := ⟨by decide, rfl, tb_at 299 (by decide +kernel) (by decide +kernel), tb_at 300 (by decide +kernel) (by decide +kernel), tb_at 301 (by decide +kernel) (by decide +kernel), cm_X0_mayMoveOn, by decide⟩
set_option maxRecDepth 100000 in
theorem cm_X1_notePass : cm_c mX1_notePass 2 := ⟨tb_at 306 (by decide +kernel) (by decide +kernel), tb_at 28 (by decide +kernel) (by decide +kernel), ⟨by decide +kernel, by decide +kernel, by decide +kernel⟩, by decide, by decide +kernel⟩
set_option maxRecDepth 100000 in
theorem cv_X5_84 : cv_c RX5 84 mX1_notePass 1 2 := ⟨by decide, rfl, tb_at 303 (by decide +kernel) (by decide +kernel), tb_at 304 (by decide +kernel) (by decide +kernel), tb_at 305 (by decide +kernel) (by decide +kernel), cm_X1_notePass, by decide⟩
set_option maxRecDepth 100000 in
theorem cm_X0_moveOn : cm_c mX0_moveOn 0 := ⟨tb_at 310 (by decide +kernel) (by decide +kernel), tb_at 30 (by decide +kernel) (by decide +kernel), ⟨by decide +kernel, by decide +kernel, by decide +kernel⟩, by decide, by decide +kernel⟩
set_option maxRecDepth 100000 in
theorem cv_X5_88 : cv_c RX5 88 mX0_moveOn 0 0 := ⟨by decide, rfl, tb_at 307 (by decide +kernel) (by decide +kernel), tb_at 308 (by decide +kernel) (by decide +kernel), tb_at 309 (by decide +kernel) (by decide +kernel), cm_X0_moveOn, by decide⟩
set_option maxRecDepth 100000 in
theorem fl_X5_92 : fl_c RX5 92 0 5 := ⟨by decide, by decide, tb_at 218 (by decide +kernel) (by decide +kernel)⟩
set_option maxRecDepth 100000 in
theorem cm_X0_leavesBelieved : cm_c mX0_leavesBelieved 0 := ⟨tb_at 318 (by decide +kernel) (by decide +kernel), tb_at 30 (by decide +kernel) (by decide +kernel), ⟨by decide +kernel, by decide +kernel, by decide +kernel⟩, by decide, by decide +kernel⟩
set_option maxRecDepth 100000 in
theorem cv_X5_95 : cv_c RX5 95 mX0_leavesBelieved 0 0 := ⟨by decide, rfl, tb_at 315 (by decide +kernel) (by decide +kernel), tb_at 316 (by decide +kernel) (by decide +kernel), tb_at 317 (by decide +kernel) (by decide +kernel), cm_X0_leavesBelieved, by decide⟩
set_option maxRecDepth 100000 in
theorem cm_X0_leavesInAll : cm_c mX0_leavesInAll 0 := ⟨tb_at 322 (by decide +kernel) (by decide +kernel), tb_at 30 (by decide +kernel) (by decide +kernel), ⟨by decide +kernel, by decide +kernel, by decide +kernel⟩, by decide, by decide +kernel⟩
set_option maxRecDepth 100000 in
theorem cv_X5_98 : cv_c RX5 98 mX0_leavesInAll 0 0 := ⟨by decide, rfl, tb_at 319 (by decide +kernel) (by decide +kernel), tb_at 320 (by decide +kernel) (by decide +kernel), tb_at 321 (by decide +kernel) (by decide +kernel), cm_X0_leavesInAll, by decide⟩
set_option maxRecDepth 100000 in
theorem fl_X5_101 : fl_c RX5 101 0 1 := ⟨by decide, by decide, tb_at 209 (by decide +kernel) (by decide +kernel)⟩
set_option maxRecDepth 100000 in
theorem cm_X5_isBench : cm_c mX5_isBench 1 := ⟨tb_at 333 (by decide +kernel) (by decide +kernel), tb_at 25 (by decide +kernel) (by decide +kernel), ⟨by decide +kernel, by decide +kernel, by decide +kernel⟩, by decide, by decide +kernel⟩
set_option maxRecDepth 100000 in
theorem cs_X5_105 : cs_c RX5 105 mX5_isBench 1 := ⟨tb_at 331 (by decide +kernel) (by decide +kernel), tb_at 332 (by decide +kernel) (by decide +kernel), cm_X5_isBench, by decide⟩
set_option maxRecDepth 100000 in
theorem fl_X5_108 : fl_c RX5 108 0 2 := ⟨by decide, by decide, tb_at 211 (by decide +kernel) (by decide +kernel)⟩
set_option maxRecDepth 100000 in
theorem fl_X5_111 : fl_c RX5 111 0 3 := ⟨by decide, by decide, tb_at 213 (by decide +kernel) (by decide +kernel)⟩
set_option maxRecDepth 100000 in
theorem fl_X5_114 : fl_c RX5 114 0 4 := ⟨by decide, by decide, tb_at 216 (by decide +kernel) (by decide +kernel)⟩
set_option maxRecDepth 100000 in
theorem fl_X5_117 : fl_c RX5 117 0 8 := ⟨by decide, by decide, tb_at 224 (by decide +kernel) (by decide +kernel)⟩
set_option maxRecDepth 100000 in
theorem fl_X5_120 : fl_c RX5 120 0 9 := ⟨by decide, by decide, tb_at 227 (by decide +kernel) (by decide +kernel)⟩
set_option maxRecDepth 100000 in
theorem fl_X5_123 : fl_c RX5 123 0 10 := ⟨by decide, by decide, tb_at 230 (by decide +kernel) (by decide +kernel)⟩
set_option maxRecDepth 100000 in
theorem cs_X5_126 : cs_c RX5 126 mJ6_bitCount_0f7a4 1 := ⟨tb_at 346 (by decide +kernel) (by decide +kernel), tb_at 290 (by decide +kernel) (by decide +kernel), cm_J6_bitCount_0f7a4, by decide⟩
set_option maxRecDepth 100000 in
theorem cm_X2_clear : cm_c mX2_clear 0 := ⟨tb_at 350 (by decide +kernel) (by decide +kernel), tb_at 26 (by decide +kernel) (by decide +kernel), ⟨by decide +kernel, by decide +kernel, by decide +kernel⟩, by decide, by decide +kernel⟩
set_option maxRecDepth 100000 in
theorem cv_X5_131 : cv_c RX5 131 mX2_clear 2 0 := ⟨by decide, rfl, tb_at 347 (by decide +kernel) (by decide +kernel), tb_at 348 (by decide +kernel) (by decide +kernel), tb_at 349 (by decide +kernel) (by decide +kernel), cm_X2_clear, by decide⟩
set_option maxRecDepth 100000 in
theorem cm_X2_enlist : cm_c mX2_enlist 2 := ⟨tb_at 354 (by decide +kernel) (by decide +kernel), tb_at 26 (by decide +kernel) (by decide +kernel), ⟨by decide +kernel, by decide +kernel, by decide +kernel⟩, by decide, by decide +kernel⟩
set_option maxRecDepth 100000 in
theorem cv_X5_134 : cv_c RX5 134 mX2_enlist 2 2 := ⟨by decide, rfl, tb_at 351 (by decide +kernel) (by decide +kernel), tb_at 352 (by decide +kernel) (by decide +kernel), tb_at 353 (by decide +kernel) (by decide +kernel), cm_X2_enlist, by decide⟩
set_option maxRecDepth 100000 in
theorem cm_X2_arrange : cm_c mX2_arrange 0 := ⟨tb_at 358 (by decide +kernel) (by decide +kernel), tb_at 26 (by decide +kernel) (by decide +kernel), ⟨by decide +kernel, by decide +kernel, by decide +kernel⟩, by decide, by decide +kernel⟩
set_option maxRecDepth 100000 in
theorem cv_X5_138 : cv_c RX5 138 mX2_arrange 2 0 := ⟨by decide, rfl, tb_at 355 (by decide +kernel) (by decide +kernel), tb_at 356 (by decide +kernel) (by decide +kernel), tb_at 357 (by decide +kernel) (by decide +kernel), cm_X2_arrange, by decide⟩
set_option maxRecDepth 100000 in
theorem cm_X2_hasPlace : cm_c mX2_hasPlace 1 := ⟨tb_at 382 (by decide +kernel) (by decide +kernel), tb_at 26 (by decide +kernel) (by decide +kernel), ⟨by decide +kernel, by decide +kernel, by decide +kernel⟩, by decide, by decide +kernel⟩
set_option maxRecDepth 100000 in
theorem cv_X5_141 : cv_c RX5 141 mX2_hasPlace 2 1 := ⟨by decide, rfl, tb_at 379 (by decide +kernel) (by decide +kernel), tb_at 380 (by decide +kernel) (by decide +kernel), tb_at 381 (by decide +kernel) (by decide +kernel), cm_X2_hasPlace, by decide⟩
set_option maxRecDepth 100000 in
theorem cv_X5_144 : cv_c RX5 144 mX2_numberAt 2 1 := ⟨by decide, rfl, tb_at 384 (by decide +kernel) (by decide +kernel), tb_at 385 (by decide +kernel) (by decide +kernel), tb_at 386 (by decide +kernel) (by decide +kernel), cm_X2_numberAt, by decide⟩
set_option maxRecDepth 100000 in
theorem fl_X5_147 : fl_c RX5 147 2 0 := ⟨by decide, by decide, tb_at 51 (by decide +kernel) (by decide +kernel)⟩
set_option maxRecDepth 100000 in
theorem cm_X2_placeOf : cm_c mX2_placeOf 1 := ⟨tb_at 395 (by decide +kernel) (by decide +kernel), tb_at 26 (by decide +kernel) (by decide +kernel), ⟨by decide +kernel, by decide +kernel, by decide +kernel⟩, by decide, by decide +kernel⟩
set_option maxRecDepth 100000 in
theorem cv_X5_150 : cv_c RX5 150 mX2_placeOf 2 1 := ⟨by decide, rfl, tb_at 392 (by decide +kernel) (by decide +kernel), tb_at 393 (by decide +kernel) (by decide +kernel), tb_at 394 (by decide +kernel) (by decide +kernel), cm_X2_placeOf, by decide⟩
set_option maxRecDepth 100000 in
theorem cm_X2_delayedBy : cm_c mX2_delayedBy 1 := ⟨tb_at 400 (by decide +kernel) (by decide +kernel), tb_at 26 (by decide +kernel) (by decide +kernel), ⟨by decide +kernel, by decide +kernel, by decide +kernel⟩, by decide, by decide +kernel⟩
set_option maxRecDepth 100000 in
theorem cv_X5_153 : cv_c RX5 153 mX2_delayedBy 2 1 := ⟨by decide, rfl, tb_at 397 (by decide +kernel) (by decide +kernel), tb_at 398 (by decide +kernel) (by decide +kernel), tb_at 399 (by decide +kernel) (by decide +kernel), cm_X2_delayedBy, by decide⟩
set_option maxRecDepth 100000 in
theorem cm_X5_isSign : cm_c mX5_isSign 1 := ⟨tb_at 407 (by decide +kernel) (by decide +kernel), tb_at 25 (by decide +kernel) (by decide +kernel), ⟨by decide +kernel, by decide +kernel, by decide +kernel⟩, by decide, by decide +kernel⟩
set_option maxRecDepth 100000 in
theorem cs_X5_156 : cs_c RX5 156 mX5_isSign 1 := ⟨tb_at 405 (by decide +kernel) (by decide +kernel), tb_at 406 (by decide +kernel) (by decide +kernel), cm_X5_isSign, by decide⟩
set_option maxRecDepth 100000 in
theorem fl_X5_159 : fl_c RX5 159 4 0 := ⟨by decide, by decide, tb_at 96 (by decide +kernel) (by decide +kernel)⟩
set_option maxRecDepth 100000 in
theorem cm_X4_addSign : cm_c mX4_addSign 1 := ⟨tb_at 415 (by decide +kernel) (by decide +kernel), tb_at 27 (by decide +kernel) (by decide +kernel), ⟨by decide +kernel, by decide +kernel, by decide +kernel⟩, by decide, by decide +kernel⟩
set_option maxRecDepth 100000 in
theorem cv_X5_162 : cv_c RX5 162 mX4_addSign 4 1 := ⟨by decide, rfl, tb_at 412 (by decide +kernel) (by decide +kernel), tb_at 413 (by decide +kernel) (by decide +kernel), tb_at 414 (by decide +kernel) (by decide +kernel), cm_X4_addSign, by decide⟩
set_option maxRecDepth 100000 in
theorem fl_X5_165 : fl_c RX5 165 4 3 := ⟨by decide, by decide, tb_at 102 (by decide +kernel) (by decide +kernel)⟩
set_option maxRecDepth 100000 in
theorem cm_X4_breakUp : cm_c mX4_breakUp 2 := ⟨tb_at 427 (by decide +kernel) (by decide +kernel), tb_at 27 (by decide +kernel) (by decide +kernel), ⟨by decide +kernel, by decide +kernel, by decide +kernel⟩, by decide, by decide +kernel⟩
set_option maxRecDepth 100000 in
theorem cv_X5_168 : cv_c RX5 168 mX4_breakUp 4 2 := ⟨by decide, rfl, tb_at 424 (by decide +kernel) (by decide +kernel), tb_at 425 (by decide +kernel) (by decide +kernel), tb_at 426 (by decide +kernel) (by decide +kernel), cm_X4_breakUp, by decide⟩
set_option maxRecDepth 100000 in
theorem fl_X5_171 : fl_c RX5 171 4 4 := ⟨by decide, by decide, tb_at 104 (by decide +kernel) (by decide +kernel)⟩
set_option maxRecDepth 100000 in
theorem fl_X5_174 : fl_c RX5 174 4 2 := ⟨by decide, by decide, tb_at 100 (by decide +kernel) (by decide +kernel)⟩
set_option maxRecDepth 100000 in
theorem cm_X4_countLetters : cm_c mX4_countLetters 0 := ⟨tb_at 452 (by decide +kernel) (by decide +kernel), tb_at 27 (by decide +kernel) (by decide +kernel), ⟨by decide +kernel, by decide +kernel, by decide +kernel⟩, by decide, by decide +kernel⟩
set_option maxRecDepth 100000 in
theorem cv_X5_177 : cv_c RX5 177 mX4_countLetters 4 0 := ⟨by decide, rfl, tb_at 449 (by decide +kernel) (by decide +kernel), tb_at 450 (by decide +kernel) (by decide +kernel), tb_at 451 (by decide +kernel) (by decide +kernel), cm_X4_countLetters, by decide⟩
set_option maxRecDepth 100000 in
theorem cm_X4_wouldBlunt : cm_c mX4_wouldBlunt 0 := ⟨tb_at 456 (by decide +kernel) (by decide +kernel), tb_at 27 (by decide +kernel) (by decide +kernel), ⟨by decide +kernel, by decide +kernel, by decide +kernel⟩, by decide, by decide +kernel⟩
set_option maxRecDepth 100000 in
theorem cv_X5_180 : cv_c RX5 180 mX4_wouldBlunt 4 0 := ⟨by decide, rfl, tb_at 453 (by decide +kernel) (by decide +kernel), tb_at 454 (by decide +kernel) (by decide +kernel), tb_at 455 (by decide +kernel) (by decide +kernel), cm_X4_wouldBlunt, by decide⟩
set_option maxRecDepth 100000 in
theorem cm_X4_stampAll : cm_c mX4_stampAll 0 := ⟨tb_at 460 (by decide +kernel) (by decide +kernel), tb_at 27 (by decide +kernel) (by decide +kernel), ⟨by decide +kernel, by decide +kernel, by decide +kernel⟩, by decide, by decide +kernel⟩
set_option maxRecDepth 100000 in
theorem cv_X5_183 : cv_c RX5 183 mX4_stampAll 4 0 := ⟨by decide, rfl, tb_at 457 (by decide +kernel) (by decide +kernel), tb_at 458 (by decide +kernel) (by decide +kernel), tb_at 459 (by decide +kernel) (by decide +kernel), cm_X4_stampAll, by decide⟩
set_option maxRecDepth 100000 in
theorem fl_X5_186 : fl_c RX5 186 4 1 := ⟨by decide, by decide, tb_at 98 (by decide +kernel) (by decide +kernel)⟩
set_option maxRecDepth 100000 in
theorem fl_X5_189 : fl_c RX5 189 4 5 := ⟨by decide, by decide, tb_at 106 (by decide +kernel) (by decide +kernel)⟩
set_option maxRecDepth 100000 in
theorem cm_X5_isSize : cm_c mX5_isSize 2 := ⟨tb_at 475 (by decide +kernel) (by decide +kernel), tb_at 25 (by decide +kernel) (by decide +kernel), ⟨by decide +kernel, by decide +kernel, by decide +kernel⟩, by decide, by decide +kernel⟩
set_option maxRecDepth 100000 in
theorem cs_X5_192 : cs_c RX5 192 mX5_isSize 2 := ⟨tb_at 473 (by decide +kernel) (by decide +kernel), tb_at 474 (by decide +kernel) (by decide +kernel), cm_X5_isSize, by decide⟩
set_option maxRecDepth 100000 in
theorem nw_X5_29 : Cond.classLink RX5 29 (cl_R 3) ∈ tb_w := tb_at 138 (by decide +kernel) (by decide +kernel)
set_option maxRecDepth 100000 in
theorem cm_X3_init : cm_c mX3_init 3 := ⟨tb_at 479 (by decide +kernel) (by decide +kernel), tb_at 33 (by decide +kernel) (by decide +kernel), ⟨by decide +kernel, by decide +kernel, by decide +kernel⟩, by decide, by decide +kernel⟩
set_option maxRecDepth 100000 in
theorem ci_X5_195 : ci_c RX5 195 mX3_init 3 := ⟨Or.inl (tb_at 477 (by decide +kernel) (by decide +kernel)), tb_at 478 (by decide +kernel) (by decide +kernel), rfl, rfl, cm_X3_init, by decide⟩
set_option maxRecDepth 100000 in
theorem cm_X5_skinAt : cm_c mX5_skinAt 1 := ⟨tb_at 508 (by decide +kernel) (by decide +kernel), tb_at 25 (by decide +kernel) (by decide +kernel), ⟨by decide +kernel, by decide +kernel, by decide +kernel⟩, by decide, by decide +kernel⟩
set_option maxRecDepth 100000 in
theorem cv_X5_198 : cv_c RX5 198 mX5_skinAt 5 1 := ⟨by decide, rfl, tb_at 505 (by decide +kernel) (by decide +kernel), tb_at 507 (by decide +kernel) (by decide +kernel), tb_at 6 (by decide +kernel) (by decide +kernel), cm_X5_skinAt, by decide⟩
set_option maxRecDepth 100000 in
theorem cm_X3_hasPlace : cm_c mX3_hasPlace 2 := ⟨tb_at 512 (by decide +kernel) (by decide +kernel), tb_at 33 (by decide +kernel) (by decide +kernel), ⟨by decide +kernel, by decide +kernel, by decide +kernel⟩, by decide, by decide +kernel⟩
set_option maxRecDepth 100000 in
theorem cv_X5_202 : cv_c RX5 202 mX3_hasPlace 3 2 := ⟨by decide, rfl, tb_at 509 (by decide +kernel) (by decide +kernel), tb_at 510 (by decide +kernel) (by decide +kernel), tb_at 511 (by decide +kernel) (by decide +kernel), cm_X3_hasPlace, by decide⟩
set_option maxRecDepth 100000 in
theorem cm_X3_stateOf : cm_c mX3_stateOf 2 := ⟨tb_at 517 (by decide +kernel) (by decide +kernel), tb_at 33 (by decide +kernel) (by decide +kernel), ⟨by decide +kernel, by decide +kernel, by decide +kernel⟩, by decide, by decide +kernel⟩
set_option maxRecDepth 100000 in
theorem cv_X5_204 : cv_c RX5 204 mX3_stateOf 3 2 := ⟨by decide, rfl, tb_at 514 (by decide +kernel) (by decide +kernel), tb_at 515 (by decide +kernel) (by decide +kernel), tb_at 516 (by decide +kernel) (by decide +kernel), cm_X3_stateOf, by decide⟩
set_option maxRecDepth 100000 in
theorem cv_X5_207 : cv_c RX5 207 mX3_fill 3 5 := ⟨by decide, rfl, tb_at 518 (by decide +kernel) (by decide +kernel), tb_at 519 (by decide +kernel) (by decide +kernel), tb_at 520 (by decide +kernel) (by decide +kernel), cm_X3_fill, by decide⟩
set_option maxRecDepth 100000 in
theorem cv_X5_211 : cv_c RX5 211 mX3_cutCover 3 2 := ⟨by decide, rfl, tb_at 526 (by decide +kernel) (by decide +kernel), tb_at 527 (by decide +kernel) (by decide +kernel), tb_at 528 (by decide +kernel) (by decide +kernel), cm_X3_cutCover, by decide⟩
set_option maxRecDepth 100000 in
theorem fl_X5_214 : fl_c RX5 214 3 0 := ⟨by decide, by decide, tb_at 482 (by decide +kernel) (by decide +kernel)⟩
set_option maxRecDepth 100000 in
theorem cm_X3_cutAlike : cm_c mX3_cutAlike 3 := ⟨tb_at 546 (by decide +kernel) (by decide +kernel), tb_at 33 (by decide +kernel) (by decide +kernel), ⟨by decide +kernel, by decide +kernel, by decide +kernel⟩, by decide, by decide +kernel⟩
set_option maxRecDepth 100000 in
theorem cv_X5_217 : cv_c RX5 217 mX3_cutAlike 3 3 := ⟨by decide, rfl, tb_at 543 (by decide +kernel) (by decide +kernel), tb_at 544 (by decide +kernel) (by decide +kernel), tb_at 545 (by decide +kernel) (by decide +kernel), cm_X3_cutAlike, by decide⟩
set_option maxRecDepth 100000 in
theorem cm_X5_takeBackAlike : cm_c mX5_takeBackAlike 1 := ⟨tb_at 551 (by decide +kernel) (by decide +kernel), tb_at 25 (by decide +kernel) (by decide +kernel), ⟨by decide +kernel, by decide +kernel, by decide +kernel⟩, by decide, by decide +kernel⟩
set_option maxRecDepth 100000 in
theorem cv_X5_221 : cv_c RX5 221 mX5_takeBackAlike 5 1 := ⟨by decide, rfl, tb_at 548 (by decide +kernel) (by decide +kernel), tb_at 550 (by decide +kernel) (by decide +kernel), tb_at 9 (by decide +kernel) (by decide +kernel), cm_X5_takeBackAlike, by decide⟩
set_option maxRecDepth 100000 in
theorem cm_X5_isDay : cm_c mX5_isDay 1 := ⟨tb_at 570 (by decide +kernel) (by decide +kernel), tb_at 25 (by decide +kernel) (by decide +kernel), ⟨by decide +kernel, by decide +kernel, by decide +kernel⟩, by decide, by decide +kernel⟩
set_option maxRecDepth 100000 in
theorem cs_X5_225 : cs_c RX5 225 mX5_isDay 1 := ⟨tb_at 568 (by decide +kernel) (by decide +kernel), tb_at 569 (by decide +kernel) (by decide +kernel), cm_X5_isDay, by decide⟩
set_option maxRecDepth 100000 in
theorem cm_X1_noteRate : cm_c mX1_noteRate 4 := ⟨tb_at 574 (by decide +kernel) (by decide +kernel), tb_at 28 (by decide +kernel) (by decide +kernel), ⟨by decide +kernel, by decide +kernel, by decide +kernel⟩, by decide, by decide +kernel⟩
set_option maxRecDepth 100000 in
theorem cv_X5_228 : cv_c RX5 228 mX1_noteRate 1 4 := ⟨by decide, rfl, tb_at 571 (by decide +kernel) (by decide +kernel), tb_at 572 (by decide +kernel) (by decide +kernel), tb_at 573 (by decide +kernel) (by decide +kernel), cm_X1_noteRate, by decide⟩
set_option maxRecDepth 100000 in
theorem cv_X5_232 : cv_c RX5 232 mX1_penceAt 1 3 := ⟨by decide, rfl, tb_at 579 (by decide +kernel) (by decide +kernel), tb_at 580 (by decide +kernel) (by decide +kernel), tb_at 581 (by decide +kernel) (by decide +kernel), cm_X1_penceAt, by decide⟩
set_option maxRecDepth 100000 in
theorem cm_X1_earned : cm_c mX1_earned 3 := ⟨tb_at 590 (by decide +kernel) (by decide +kernel), tb_at 28 (by decide +kernel) (by decide +kernel), ⟨by decide +kernel, by decide +kernel, by decide +kernel⟩, by decide, by decide +kernel⟩
set_option maxRecDepth 100000 in
theorem cv_X5_235 : cv_c RX5 235 mX1_earned 1 3 := ⟨by decide, rfl, tb_at 587 (by decide +kernel) (by decide +kernel), tb_at 588 (by decide +kernel) (by decide +kernel), tb_at 589 (by decide +kernel) (by decide +kernel), cm_X1_earned, by decide⟩
set_option maxRecDepth 100000 in
theorem fl_X5_238 : fl_c RX5 238 1 1 := ⟨by decide, by decide, tb_at 149 (by decide +kernel) (by decide +kernel)⟩
set_option maxRecDepth 100000 in
theorem cv_X5_241 : cv_c RX5 241 mX4_readWords 4 0 := ⟨by decide, rfl, tb_at 597 (by decide +kernel) (by decide +kernel), tb_at 429 (by decide +kernel) (by decide +kernel), tb_at 430 (by decide +kernel) (by decide +kernel), cm_X4_readWords, by decide⟩
set_option maxRecDepth 100000 in
theorem fl_X5_244 : fl_c RX5 244 1 0 := ⟨by decide, by decide, tb_at 147 (by decide +kernel) (by decide +kernel)⟩
set_option maxRecDepth 100000 in
theorem cm_X3_takeBackAlike : cm_c mX3_takeBackAlike 0 := ⟨tb_at 555 (by decide +kernel) (by decide +kernel), tb_at 33 (by decide +kernel) (by decide +kernel), ⟨by decide +kernel, by decide +kernel, by decide +kernel⟩, by decide, by decide +kernel⟩
set_option maxRecDepth 100000 in
theorem cv_X5_247 : cv_c RX5 247 mX3_takeBackAlike 3 0 := ⟨by decide, rfl, tb_at 552 (by decide +kernel) (by decide +kernel), tb_at 553 (by decide +kernel) (by decide +kernel), tb_at 554 (by decide +kernel) (by decide +kernel), cm_X3_takeBackAlike, by decide⟩
set_option maxRecDepth 100000 in
theorem oi_X6_1 : Cond.methodLink RX6 1 objectInit ∈ tb_w := tb_at 603 (by decide +kernel) (by decide +kernel)
set_option maxRecDepth 100000 in
theorem fl_X6_7 : fl_c RX6 7 6 2 := ⟨by decide, by decide, tb_at 606 (by decide +kernel) (by decide +kernel)⟩
set_option maxRecDepth 100000 in
theorem fl_X6_13 : fl_c RX6 13 6 3 := ⟨by decide, by decide, tb_at 607 (by decide +kernel) (by decide +kernel)⟩
set_option maxRecDepth 100000 in
theorem fl_X6_16 : fl_c RX6 16 6 4 := ⟨by decide, by decide, tb_at 608 (by decide +kernel) (by decide +kernel)⟩
set_option maxRecDepth 100000 in
theorem fl_X6_19 : fl_c RX6 19 6 5 := ⟨by decide, by decide, tb_at 609 (by decide +kernel) (by decide +kernel)⟩
set_option maxRecDepth 100000 in
theorem fl_X6_22 : fl_c RX6 22 6 6 := ⟨by decide, by decide, tb_at 610 (by decide +kernel) (by decide +kernel)⟩
set_option maxRecDepth 100000 in
theorem fl_X6_26 : fl_c RX6 26 6 7 := ⟨by decide, by decide, tb_at 611 (by decide +kernel) (by decide +kernel)⟩
set_option maxRecDepth 100000 in
theorem fl_X6_29 : fl_c RX6 29 6 8 := ⟨by decide, by decide, tb_at 612 (by decide +kernel) (by decide +kernel)⟩
set_option maxRecDepth 100000 in
theorem fl_X6_32 : fl_c RX6 32 6 9 := ⟨by decide, by decide, tb_at 613 (by decide +kernel) (by decide +kernel)⟩
set_option maxRecDepth 100000 in
theorem fl_X6_35 : fl_c RX6 35 6 10 := ⟨by decide, by decide, tb_at 614 (by decide +kernel) (by decide +kernel)⟩
set_option maxRecDepth 100000 in
theorem fl_X6_38 : fl_c RX6 38 6 11 := ⟨by decide, by decide, tb_at 615 (by decide +kernel) (by decide +kernel)⟩
set_option maxRecDepth 100000 in
theorem fl_X6_41 : fl_c RX6 41 6 12 := ⟨by decide, by decide, tb_at 616 (by decide +kernel) (by decide +kernel)⟩
set_option maxRecDepth 100000 in
theorem fl_X6_44 : fl_c RX6 44 6 14 := ⟨by decide, by decide, tb_at 618 (by decide +kernel) (by decide +kernel)⟩
set_option maxRecDepth 100000 in
theorem fl_X6_47 : fl_c RX6 47 6 15 := ⟨by decide, by decide, tb_at 619 (by decide +kernel) (by decide +kernel)⟩
set_option maxRecDepth 100000 in
theorem fl_X6_50 : fl_c RX6 50 6 17 := ⟨by decide, by decide, tb_at 621 (by decide +kernel) (by decide +kernel)⟩
set_option maxRecDepth 100000 in
theorem fl_X6_53 : fl_c RX6 53 6 18 := ⟨by decide, by decide, tb_at 622 (by decide +kernel) (by decide +kernel)⟩
set_option maxRecDepth 100000 in
theorem fl_X6_56 : fl_c RX6 56 6 19 := ⟨by decide, by decide, tb_at 623 (by decide +kernel) (by decide +kernel)⟩
set_option maxRecDepth 100000 in
theorem fl_X6_59 : fl_c RX6 59 6 20 := ⟨by decide, by decide, tb_at 624 (by decide +kernel) (by decide +kernel)⟩
set_option maxRecDepth 100000 in
theorem fl_X6_62 : fl_c RX6 62 6 21 := ⟨by decide, by decide, tb_at 625 (by decide +kernel) (by decide +kernel)⟩
set_option maxRecDepth 100000 in
theorem fl_X6_65 : fl_c RX6 65 6 22 := ⟨by decide, by decide, tb_at 626 (by decide +kernel) (by decide +kernel)⟩
set_option maxRecDepth 100000 in
theorem fl_X6_68 : fl_c RX6 68 6 23 := ⟨by decide, by decide, tb_at 627 (by decide +kernel) (by decide +kernel)⟩
set_option maxRecDepth 100000 in
theorem fl_X6_71 : fl_c RX6 71 6 24 := ⟨by decide, by decide, tb_at 628 (by decide +kernel) (by decide +kernel)⟩
set_option maxRecDepth 100000 in
theorem fl_X6_74 : fl_c RX6 74 6 26 := ⟨by decide, by decide, tb_at 630 (by decide +kernel) (by decide +kernel)⟩
set_option maxRecDepth 100000 in
theorem fl_X6_77 : fl_c RX6 77 6 28 := ⟨by decide, by decide, tb_at 632 (by decide +kernel) (by decide +kernel)⟩
set_option maxRecDepth 100000 in
theorem fl_X6_80 : fl_c RX6 80 6 29 := ⟨by decide, by decide, tb_at 633 (by decide +kernel) (by decide +kernel)⟩
set_option maxRecDepth 100000 in
theorem fl_X6_83 : fl_c RX6 83 6 31 := ⟨by decide, by decide, tb_at 635 (by decide +kernel) (by decide +kernel)⟩
set_option maxRecDepth 100000 in
theorem fl_X6_86 : fl_c RX6 86 6 32 := ⟨by decide, by decide, tb_at 636 (by decide +kernel) (by decide +kernel)⟩
set_option maxRecDepth 100000 in
theorem fl_X6_89 : fl_c RX6 89 6 33 := ⟨by decide, by decide, tb_at 637 (by decide +kernel) (by decide +kernel)⟩
set_option maxRecDepth 100000 in
theorem fl_X6_93 : fl_c RX6 93 6 35 := ⟨by decide, by decide, tb_at 639 (by decide +kernel) (by decide +kernel)⟩
set_option maxRecDepth 100000 in
theorem fl_X6_96 : fl_c RX6 96 6 36 := ⟨by decide, by decide, tb_at 640 (by decide +kernel) (by decide +kernel)⟩
set_option maxRecDepth 100000 in
theorem fl_X6_99 : fl_c RX6 99 6 37 := ⟨by decide, by decide, tb_at 641 (by decide +kernel) (by decide +kernel)⟩
set_option maxRecDepth 100000 in
theorem fl_X6_102 : fl_c RX6 102 6 38 := ⟨by decide, by decide, tb_at 642 (by decide +kernel) (by decide +kernel)⟩
set_option maxRecDepth 100000 in
theorem fl_X6_105 : fl_c RX6 105 6 39 := ⟨by decide, by decide, tb_at 643 (by decide +kernel) (by decide +kernel)⟩
set_option maxRecDepth 100000 in
theorem fl_X6_108 : fl_c RX6 108 6 40 := ⟨by decide, by decide, tb_at 644 (by decide +kernel) (by decide +kernel)⟩
set_option maxRecDepth 100000 in
theorem fl_X6_111 : fl_c RX6 111 6 41 := ⟨by decide, by decide, tb_at 645 (by decide +kernel) (by decide +kernel)⟩
set_option maxRecDepth 100000 in
theorem fl_X6_114 : fl_c RX6 114 6 43 := ⟨by decide, by decide, tb_at 647 (by decide +kernel) (by decide +kernel)⟩
set_option maxRecDepth 100000 in
theorem fl_X6_117 : fl_c RX6 117 6 44 := ⟨by decide, by decide, tb_at 648 (by decide +kernel) (by decide +kernel)⟩
set_option maxRecDepth 100000 in
theorem fl_X6_120 : fl_c RX6 120 6 45 := ⟨by decide, by decide, tb_at 649 (by decide +kernel) (by decide +kernel)⟩
set_option maxRecDepth 100000 in
theorem fl_X6_123 : fl_c RX6 123 6 46 := ⟨by decide, by decide, tb_at 650 (by decide +kernel) (by decide +kernel)⟩
set_option maxRecDepth 100000 in
theorem fl_X6_126 : fl_c RX6 126 6 1 := ⟨by decide, by decide, tb_at 605 (by decide +kernel) (by decide +kernel)⟩
set_option maxRecDepth 100000 in
theorem cm_X6_in : cm_c mX6_in 3 := ⟨tb_at 761 (by decide +kernel) (by decide +kernel), tb_at 29 (by decide +kernel) (by decide +kernel), ⟨by decide +kernel, by decide +kernel, by decide +kernel⟩, by decide, by decide +kernel⟩
set_option maxRecDepth 100000 in
theorem cs_X6_129 : cs_c RX6 129 mX6_in 3 := ⟨tb_at 759 (by decide +kernel) (by decide +kernel), tb_at 760 (by decide +kernel) (by decide +kernel), cm_X6_in, by decide⟩
set_option maxRecDepth 100000 in
theorem cm_X6_isBook : cm_c mX6_isBook 1 := ⟨tb_at 758 (by decide +kernel) (by decide +kernel), tb_at 29 (by decide +kernel) (by decide +kernel), ⟨by decide +kernel, by decide +kernel, by decide +kernel⟩, by decide, by decide +kernel⟩
set_option maxRecDepth 100000 in
theorem cv_X6_133 : cv_c RX6 133 mX6_isBook 6 1 := ⟨by decide, rfl, tb_at 755 (by decide +kernel) (by decide +kernel), tb_at 757 (by decide +kernel) (by decide +kernel), tb_at 10 (by decide +kernel) (by decide +kernel), cm_X6_isBook, by decide⟩
set_option maxRecDepth 100000 in
theorem cm_X6_isGathering : cm_c mX6_isGathering 2 := ⟨tb_at 769 (by decide +kernel) (by decide +kernel), tb_at 29 (by decide +kernel) (by decide +kernel), ⟨by decide +kernel, by decide +kernel, by decide +kernel⟩, by decide, by decide +kernel⟩
set_option maxRecDepth 100000 in
theorem cv_X6_137 : cv_c RX6 137 mX6_isGathering 6 2 := ⟨by decide, rfl, tb_at 766 (by decide +kernel) (by decide +kernel), tb_at 768 (by decide +kernel) (by decide +kernel), tb_at 11 (by decide +kernel) (by decide +kernel), cm_X6_isGathering, by decide⟩
set_option maxRecDepth 100000 in
theorem cm_X6_many : cm_c mX6_many 1 := ⟨tb_at 772 (by decide +kernel) (by decide +kernel), tb_at 29 (by decide +kernel) (by decide +kernel), ⟨by decide +kernel, by decide +kernel, by decide +kernel⟩, by decide, by decide +kernel⟩
set_option maxRecDepth 100000 in
theorem cs_X6_141 : cs_c RX6 141 mX6_many 1 := ⟨tb_at 770 (by decide +kernel) (by decide +kernel), tb_at 771 (by decide +kernel) (by decide +kernel), cm_X6_many, by decide⟩
set_option maxRecDepth 100000 in
theorem fl_X6_145 : fl_c RX6 145 6 13 := ⟨by decide, by decide, tb_at 617 (by decide +kernel) (by decide +kernel)⟩
set_option maxRecDepth 100000 in
theorem fl_X6_148 : fl_c RX6 148 6 0 := ⟨by decide, by decide, tb_at 604 (by decide +kernel) (by decide +kernel)⟩
set_option maxRecDepth 100000 in
theorem cm_X6_isBench : cm_c mX6_isBench 1 := ⟨tb_at 791 (by decide +kernel) (by decide +kernel), tb_at 29 (by decide +kernel) (by decide +kernel), ⟨by decide +kernel, by decide +kernel, by decide +kernel⟩, by decide, by decide +kernel⟩
set_option maxRecDepth 100000 in
theorem cs_X6_151 : cs_c RX6 151 mX6_isBench 1 := ⟨tb_at 789 (by decide +kernel) (by decide +kernel), tb_at 790 (by decide +kernel) (by decide +kernel), cm_X6_isBench, by decide⟩
set_option maxRecDepth 100000 in
theorem cm_X6_tell : cm_c mX6_tell 4 := ⟨tb_at 807 (by decide +kernel) (by decide +kernel), tb_at 29 (by decide +kernel) (by decide +kernel), ⟨by decide +kernel, by decide +kernel, by decide +kernel⟩, by decide, by decide +kernel⟩
set_option maxRecDepth 100000 in
theorem cv_X6_154 : cv_c RX6 154 mX6_tell 6 4 := ⟨by decide, rfl, tb_at 804 (by decide +kernel) (by decide +kernel), tb_at 806 (by decide +kernel) (by decide +kernel), tb_at 12 (by decide +kernel) (by decide +kernel), cm_X6_tell, by decide⟩
set_option maxRecDepth 100000 in
theorem cm_X6_findEnds : cm_c mX6_findEnds 1 := ⟨tb_at 811 (by decide +kernel) (by decide +kernel), tb_at 29 (by decide +kernel) (by decide +kernel), ⟨by decide +kernel, by decide +kernel, by decide +kernel⟩, by decide, by decide +kernel⟩
set_option maxRecDepth 100000 in
theorem cv_X6_158 : cv_c RX6 158 mX6_findEnds 6 1 := ⟨by decide, rfl, tb_at 808 (by decide +kernel) (by decide +kernel), tb_at 810 (by decide +kernel) (by decide +kernel), tb_at 13 (by decide +kernel) (by decide +kernel), cm_X6_findEnds, by decide⟩
set_option maxRecDepth 100000 in
theorem fl_X6_162 : fl_c RX6 162 6 16 := ⟨by decide, by decide, tb_at 620 (by decide +kernel) (by decide +kernel)⟩
set_option maxRecDepth 100000 in
theorem fl_X6_165 : fl_c RX6 165 6 25 := ⟨by decide, by decide, tb_at 629 (by decide +kernel) (by decide +kernel)⟩
set_option maxRecDepth 100000 in
theorem fl_X6_168 : fl_c RX6 168 6 27 := ⟨by decide, by decide, tb_at 631 (by decide +kernel) (by decide +kernel)⟩
set_option maxRecDepth 100000 in
theorem cm_X6_wideOf : cm_c mX6_wideOf 2 := ⟨tb_at 847 (by decide +kernel) (by decide +kernel), tb_at 29 (by decide +kernel) (by decide +kernel), ⟨by decide +kernel, by decide +kernel, by decide +kernel⟩, by decide, by decide +kernel⟩
set_option maxRecDepth 100000 in
theorem cv_X6_171 : cv_c RX6 171 mX6_wideOf 6 2 := ⟨by decide, rfl, tb_at 844 (by decide +kernel) (by decide +kernel), tb_at 846 (by decide +kernel) (by decide +kernel), tb_at 16 (by decide +kernel) (by decide +kernel), cm_X6_wideOf, by decide⟩
set_option maxRecDepth 100000 in
theorem cm_X6_findWords : cm_c mX6_findWords 0 := ⟨tb_at 839 (by decide +kernel) (by decide +kernel), tb_at 29 (by decide +kernel) (by decide +kernel), ⟨by decide +kernel, by decide +kernel, by decide +kernel⟩, by decide, by decide +kernel⟩
set_option maxRecDepth 100000 in
theorem cv_X6_175 : cv_c RX6 175 mX6_findWords 6 0 := ⟨by decide, rfl, tb_at 836 (by decide +kernel) (by decide +kernel), tb_at 838 (by decide +kernel) (by decide +kernel), tb_at 14 (by decide +kernel) (by decide +kernel), cm_X6_findWords, by decide⟩
set_option maxRecDepth 100000 in
theorem cm_X6_through : cm_c mX6_through 4 := ⟨tb_at 843 (by decide +kernel) (by decide +kernel), tb_at 29 (by decide +kernel) (by decide +kernel), ⟨by decide +kernel, by decide +kernel, by decide +kernel⟩, by decide, by decide +kernel⟩
set_option maxRecDepth 100000 in
theorem cv_X6_178 : cv_c RX6 178 mX6_through 6 4 := ⟨by decide, rfl, tb_at 840 (by decide +kernel) (by decide +kernel), tb_at 842 (by decide +kernel) (by decide +kernel), tb_at 15 (by decide +kernel) (by decide +kernel), cm_X6_through, by decide⟩
set_option maxRecDepth 100000 in
theorem fl_X6_182 : fl_c RX6 182 6 30 := ⟨by decide, by decide, tb_at 634 (by decide +kernel) (by decide +kernel)⟩
set_option maxRecDepth 100000 in
theorem cm_X6_often : cm_c mX6_often 1 := ⟨tb_at 859 (by decide +kernel) (by decide +kernel), tb_at 29 (by decide +kernel) (by decide +kernel), ⟨by decide +kernel, by decide +kernel, by decide +kernel⟩, by decide, by decide +kernel⟩
set_option maxRecDepth 100000 in
theorem cv_X6_185 : cv_c RX6 185 mX6_often 6 1 := ⟨by decide, rfl, tb_at 856 (by decide +kernel) (by decide +kernel), tb_at 858 (by decide +kernel) (by decide +kernel), tb_at 17 (by decide +kernel) (by decide +kernel), cm_X6_often, by decide⟩
set_option maxRecDepth 100000 in
theorem fl_X6_188 : fl_c RX6 188 6 34 := ⟨by decide, by decide, tb_at 638 (by decide +kernel) (by decide +kernel)⟩
set_option maxRecDepth 100000 in
theorem cm_X6_isSkin : cm_c mX6_isSkin 1 := ⟨tb_at 879 (by decide +kernel) (by decide +kernel), tb_at 29 (by decide +kernel) (by decide +kernel), ⟨by decide +kernel, by decide +kernel, by decide +kernel⟩, by decide, by decide +kernel⟩
set_option maxRecDepth 100000 in
theorem cv_X6_191 : cv_c RX6 191 mX6_isSkin 6 1 := ⟨by decide, rfl, tb_at 876 (by decide +kernel) (by decide +kernel), tb_at 878 (by decide +kernel) (by decide +kernel), tb_at 18 (by decide +kernel) (by decide +kernel), cm_X6_isSkin, by decide⟩
set_option maxRecDepth 100000 in
theorem cm_X6_isSpot : cm_c mX6_isSpot 3 := ⟨tb_at 883 (by decide +kernel) (by decide +kernel), tb_at 29 (by decide +kernel) (by decide +kernel), ⟨by decide +kernel, by decide +kernel, by decide +kernel⟩, by decide, by decide +kernel⟩
set_option maxRecDepth 100000 in
theorem cv_X6_194 : cv_c RX6 194 mX6_isSpot 6 3 := ⟨by decide, rfl, tb_at 880 (by decide +kernel) (by decide +kernel), tb_at 882 (by decide +kernel) (by decide +kernel), tb_at 19 (by decide +kernel) (by decide +kernel), cm_X6_isSpot, by decide⟩
set_option maxRecDepth 100000 in
theorem cm_X6_fits : cm_c mX6_fits 5 := ⟨tb_at 895 (by decide +kernel) (by decide +kernel), tb_at 29 (by decide +kernel) (by decide +kernel), ⟨by decide +kernel, by decide +kernel, by decide +kernel⟩, by decide, by decide +kernel⟩
set_option maxRecDepth 100000 in
theorem cv_X6_197 : cv_c RX6 197 mX6_fits 6 5 := ⟨by decide, rfl, tb_at 892 (by decide +kernel) (by decide +kernel), tb_at 894 (by decide +kernel) (by decide +kernel), tb_at 21 (by decide +kernel) (by decide +kernel), cm_X6_fits, by decide⟩
set_option maxRecDepth 100000 in
theorem cm_X6_take : cm_c mX6_take 6 := ⟨tb_at 899 (by decide +kernel) (by decide +kernel), tb_at 29 (by decide +kernel) (by decide +kernel), ⟨by decide +kernel, by decide +kernel, by decide +kernel⟩, by decide, by decide +kernel⟩
set_option maxRecDepth 100000 in
theorem cv_X6_201 : cv_c RX6 201 mX6_take 6 6 := ⟨by decide, rfl, tb_at 896 (by decide +kernel) (by decide +kernel), tb_at 898 (by decide +kernel) (by decide +kernel), tb_at 22 (by decide +kernel) (by decide +kernel), cm_X6_take, by decide⟩
set_option maxRecDepth 100000 in
theorem cm_X6_cutOf : cm_c mX6_cutOf 3 := ⟨tb_at 891 (by decide +kernel) (by decide +kernel), tb_at 29 (by decide +kernel) (by decide +kernel), ⟨by decide +kernel, by decide +kernel, by decide +kernel⟩, by decide, by decide +kernel⟩
set_option maxRecDepth 100000 in
theorem cv_X6_205 : cv_c RX6 205 mX6_cutOf 6 3 := ⟨by decide, rfl, tb_at 888 (by decide +kernel) (by decide +kernel), tb_at 890 (by decide +kernel) (by decide +kernel), tb_at 20 (by decide +kernel) (by decide +kernel), cm_X6_cutOf, by decide⟩
set_option maxRecDepth 100000 in
theorem cm_X6_isDay : cm_c mX6_isDay 1 := ⟨tb_at 918 (by decide +kernel) (by decide +kernel), tb_at 29 (by decide +kernel) (by decide +kernel), ⟨by decide +kernel, by decide +kernel, by decide +kernel⟩, by decide, by decide +kernel⟩
set_option maxRecDepth 100000 in
theorem cs_X6_209 : cs_c RX6 209 mX6_isDay 1 := ⟨tb_at 916 (by decide +kernel) (by decide +kernel), tb_at 917 (by decide +kernel) (by decide +kernel), cm_X6_isDay, by decide⟩
set_option maxRecDepth 100000 in
theorem fl_X6_212 : fl_c RX6 212 6 42 := ⟨by decide, by decide, tb_at 646 (by decide +kernel) (by decide +kernel)⟩
set_option maxRecDepth 100000 in
theorem cm_X6_rateOf : cm_c mX6_rateOf 3 := ⟨tb_at 926 (by decide +kernel) (by decide +kernel), tb_at 29 (by decide +kernel) (by decide +kernel), ⟨by decide +kernel, by decide +kernel, by decide +kernel⟩, by decide, by decide +kernel⟩
set_option maxRecDepth 100000 in
theorem cv_X6_215 : cv_c RX6 215 mX6_rateOf 6 3 := ⟨by decide, rfl, tb_at 923 (by decide +kernel) (by decide +kernel), tb_at 925 (by decide +kernel) (by decide +kernel), tb_at 23 (by decide +kernel) (by decide +kernel), cm_X6_rateOf, by decide⟩
set_option maxRecDepth 100000 in
theorem nw_L_7 : Cond.classLink RL 7 (cl_R 5) ∈ tb_w := tb_at 34 (by decide +kernel) (by decide +kernel)
set_option maxRecDepth 100000 in
theorem cm_X5_init : cm_c mX5_init 0 := ⟨tb_at 38 (by decide +kernel) (by decide +kernel), tb_at 25 (by decide +kernel) (by decide +kernel), ⟨by decide +kernel, by decide +kernel, by decide +kernel⟩, by decide, by decide +kernel⟩
set_option maxRecDepth 100000 in
theorem ci_L_9 : ci_c RL 9 mX5_init 0 := ⟨Or.inl (tb_at 36 (by decide +kernel) (by decide +kernel)), tb_at 37 (by decide +kernel) (by decide +kernel), rfl, rfl, cm_X5_init, by decide⟩
set_option maxRecDepth 100000 in
theorem nw_L_10 : Cond.classLink RL 10 (cl_R 6) ∈ tb_w := tb_at 598 (by decide +kernel) (by decide +kernel)
set_option maxRecDepth 100000 in
theorem cm_X6_init : cm_c mX6_init 0 := ⟨tb_at 602 (by decide +kernel) (by decide +kernel), tb_at 29 (by decide +kernel) (by decide +kernel), ⟨by decide +kernel, by decide +kernel, by decide +kernel⟩, by decide, by decide +kernel⟩
set_option maxRecDepth 100000 in
theorem ci_L_12 : ci_c RL 12 mX6_init 0 := ⟨Or.inl (tb_at 600 (by decide +kernel) (by decide +kernel)), tb_at 601 (by decide +kernel) (by decide +kernel), rfl, rfl, cm_X6_init, by decide⟩
set_option maxRecDepth 100000 in
theorem cm_X5_book : cm_c mX5_book 0 := ⟨tb_at 201 (by decide +kernel) (by decide +kernel), tb_at 25 (by decide +kernel) (by decide +kernel), ⟨by decide +kernel, by decide +kernel, by decide +kernel⟩, by decide, by decide +kernel⟩
set_option maxRecDepth 100000 in
theorem cv_L_13 : cv_c RL 13 mX5_book 5 0 := ⟨by decide, rfl, tb_at 198 (by decide +kernel) (by decide +kernel), tb_at 199 (by decide +kernel) (by decide +kernel), tb_at 200 (by decide +kernel) (by decide +kernel), cm_X5_book, by decide⟩
set_option maxRecDepth 100000 in
theorem cm_X6_book : cm_c mX6_book 0 := ⟨tb_at 750 (by decide +kernel) (by decide +kernel), tb_at 29 (by decide +kernel) (by decide +kernel), ⟨by decide +kernel, by decide +kernel, by decide +kernel⟩, by decide, by decide +kernel⟩
set_option maxRecDepth 100000 in
theorem cv_L_17 : cv_c RL 17 mX6_book 6 0 := ⟨by decide, rfl, tb_at 747 (by decide +kernel) (by decide +kernel), tb_at 748 (by decide +kernel) (by decide +kernel), tb_at 749 (by decide +kernel) (by decide +kernel), cm_X6_book, by decide⟩
set_option maxRecDepth 100000 in
theorem cm_X5_gather : cm_c mX5_gather 2 := ⟨tb_at 257 (by decide +kernel) (by decide +kernel), tb_at 25 (by decide +kernel) (by decide +kernel), ⟨by decide +kernel, by decide +kernel, by decide +kernel⟩, by decide, by decide +kernel⟩
set_option maxRecDepth 100000 in
theorem cv_L_18 : cv_c RL 18 mX5_gather 5 2 := ⟨by decide, rfl, tb_at 254 (by decide +kernel) (by decide +kernel), tb_at 255 (by decide +kernel) (by decide +kernel), tb_at 256 (by decide +kernel) (by decide +kernel), cm_X5_gather, by decide⟩
set_option maxRecDepth 100000 in
theorem cm_X6_gather : cm_c mX6_gather 2 := ⟨tb_at 754 (by decide +kernel) (by decide +kernel), tb_at 29 (by decide +kernel) (by decide +kernel), ⟨by decide +kernel, by decide +kernel, by decide +kernel⟩, by decide, by decide +kernel⟩
set_option maxRecDepth 100000 in
theorem cv_L_22 : cv_c RL 22 mX6_gather 6 2 := ⟨by decide, rfl, tb_at 751 (by decide +kernel) (by decide +kernel), tb_at 752 (by decide +kernel) (by decide +kernel), tb_at 753 (by decide +kernel) (by decide +kernel), cm_X6_gather, by decide⟩
set_option maxRecDepth 100000 in
theorem cm_X5_look : cm_c mX5_look 3 := ⟨tb_at 275 (by decide +kernel) (by decide +kernel), tb_at 25 (by decide +kernel) (by decide +kernel), ⟨by decide +kernel, by decide +kernel, by decide +kernel⟩, by decide, by decide +kernel⟩
set_option maxRecDepth 100000 in
theorem cv_L_23 : cv_c RL 23 mX5_look 5 3 := ⟨by decide, rfl, tb_at 272 (by decide +kernel) (by decide +kernel), tb_at 273 (by decide +kernel) (by decide +kernel), tb_at 274 (by decide +kernel) (by decide +kernel), cm_X5_look, by decide⟩
set_option maxRecDepth 100000 in
theorem cm_X6_look : cm_c mX6_look 3 := ⟨tb_at 765 (by decide +kernel) (by decide +kernel), tb_at 29 (by decide +kernel) (by decide +kernel), ⟨by decide +kernel, by decide +kernel, by decide +kernel⟩, by decide, by decide +kernel⟩
set_option maxRecDepth 100000 in
theorem cv_L_27 : cv_c RL 27 mX6_look 6 3 := ⟨by decide, rfl, tb_at 762 (by decide +kernel) (by decide +kernel), tb_at 763 (by decide +kernel) (by decide +kernel), tb_at 764 (by decide +kernel) (by decide +kernel), cm_X6_look, by decide⟩
set_option maxRecDepth 100000 in
theorem cm_X5_pass : cm_c mX5_pass 1 := ⟨tb_at 298 (by decide +kernel) (by decide +kernel), tb_at 25 (by decide +kernel) (by decide +kernel), ⟨by decide +kernel, by decide +kernel, by decide +kernel⟩, by decide, by decide +kernel⟩
set_option maxRecDepth 100000 in
theorem cv_L_28 : cv_c RL 28 mX5_pass 5 1 := ⟨by decide, rfl, tb_at 295 (by decide +kernel) (by decide +kernel), tb_at 296 (by decide +kernel) (by decide +kernel), tb_at 297 (by decide +kernel) (by decide +kernel), cm_X5_pass, by decide⟩
set_option maxRecDepth 100000 in
theorem cm_X6_pass : cm_c mX6_pass 1 := ⟨tb_at 776 (by decide +kernel) (by decide +kernel), tb_at 29 (by decide +kernel) (by decide +kernel), ⟨by decide +kernel, by decide +kernel, by decide +kernel⟩, by decide, by decide +kernel⟩
set_option maxRecDepth 100000 in
theorem cv_L_32 : cv_c RL 32 mX6_pass 6 1 := ⟨by decide, rfl, tb_at 773 (by decide +kernel) (by decide +kernel), tb_at 774 (by decide +kernel) (by decide +kernel), tb_at 775 (by decide +kernel) (by decide +kernel), cm_X6_pass, by decide⟩
set_option maxRecDepth 100000 in
theorem cm_X5_told : cm_c mX5_told 2 := ⟨tb_at 314 (by decide +kernel) (by decide +kernel), tb_at 25 (by decide +kernel) (by decide +kernel), ⟨by decide +kernel, by decide +kernel, by decide +kernel⟩, by decide, by decide +kernel⟩
set_option maxRecDepth 100000 in
theorem cv_L_33 : cv_c RL 33 mX5_told 5 2 := ⟨by decide, rfl, tb_at 311 (by decide +kernel) (by decide +kernel), tb_at 312 (by decide +kernel) (by decide +kernel), tb_at 313 (by decide +kernel) (by decide +kernel), cm_X5_told, by decide⟩
set_option maxRecDepth 100000 in
theorem cm_X6_told : cm_c mX6_told 2 := ⟨tb_at 780 (by decide +kernel) (by decide +kernel), tb_at 29 (by decide +kernel) (by decide +kernel), ⟨by decide +kernel, by decide +kernel, by decide +kernel⟩, by decide, by decide +kernel⟩
set_option maxRecDepth 100000 in
theorem cv_L_36 : cv_c RL 36 mX6_told 6 2 := ⟨by decide, rfl, tb_at 777 (by decide +kernel) (by decide +kernel), tb_at 778 (by decide +kernel) (by decide +kernel), tb_at 779 (by decide +kernel) (by decide +kernel), cm_X6_told, by decide⟩
set_option maxRecDepth 100000 in
theorem cm_X5_there : cm_c mX5_there 2 := ⟨tb_at 326 (by decide +kernel) (by decide +kernel), tb_at 25 (by decide +kernel) (by decide +kernel), ⟨by decide +kernel, by decide +kernel, by decide +kernel⟩, by decide, by decide +kernel⟩
set_option maxRecDepth 100000 in
theorem cv_L_37 : cv_c RL 37 mX5_there 5 2 := ⟨by decide, rfl, tb_at 323 (by decide +kernel) (by decide +kernel), tb_at 324 (by decide +kernel) (by decide +kernel), tb_at 325 (by decide +kernel) (by decide +kernel), cm_X5_there, by decide⟩
set_option maxRecDepth 100000 in
theorem cm_X6_there : cm_c mX6_there 2 := ⟨tb_at 784 (by decide +kernel) (by decide +kernel), tb_at 29 (by decide +kernel) (by decide +kernel), ⟨by decide +kernel, by decide +kernel, by decide +kernel⟩, by decide, by decide +kernel⟩
set_option maxRecDepth 100000 in
theorem cv_L_40 : cv_c RL 40 mX6_there 6 2 := ⟨by decide, rfl, tb_at 781 (by decide +kernel) (by decide +kernel), tb_at 782 (by decide +kernel) (by decide +kernel), tb_at 783 (by decide +kernel) (by decide +kernel), cm_X6_there, by decide⟩
set_option maxRecDepth 100000 in
theorem cm_X5_gone : cm_c mX5_gone 3 := ⟨tb_at 330 (by decide +kernel) (by decide +kernel), tb_at 25 (by decide +kernel) (by decide +kernel), ⟨by decide +kernel, by decide +kernel, by decide +kernel⟩, by decide, by decide +kernel⟩
set_option maxRecDepth 100000 in
theorem cv_L_41 : cv_c RL 41 mX5_gone 5 3 := ⟨by decide, rfl, tb_at 327 (by decide +kernel) (by decide +kernel), tb_at 328 (by decide +kernel) (by decide +kernel), tb_at 329 (by decide +kernel) (by decide +kernel), cm_X5_gone, by decide⟩
set_option maxRecDepth 100000 in
theorem cm_X6_gone : cm_c mX6_gone 3 := ⟨tb_at 788 (by decide +kernel) (by decide +kernel), tb_at 29 (by decide +kernel) (by decide +kernel), ⟨by decide +kernel, by decide +kernel, by decide +kernel⟩, by decide, by decide +kernel⟩
set_option maxRecDepth 100000 in
theorem cv_L_44 : cv_c RL 44 mX6_gone 6 3 := ⟨by decide, rfl, tb_at 785 (by decide +kernel) (by decide +kernel), tb_at 786 (by decide +kernel) (by decide +kernel), tb_at 787 (by decide +kernel) (by decide +kernel), cm_X6_gone, by decide⟩
set_option maxRecDepth 100000 in
theorem cm_X5_hours : cm_c mX5_hours 3 := ⟨tb_at 337 (by decide +kernel) (by decide +kernel), tb_at 25 (by decide +kernel) (by decide +kernel), ⟨by decide +kernel, by decide +kernel, by decide +kernel⟩, by decide, by decide +kernel⟩
set_option maxRecDepth 100000 in
theorem cv_L_45 : cv_c RL 45 mX5_hours 5 3 := ⟨by decide, rfl, tb_at 334 (by decide +kernel) (by decide +kernel), tb_at 335 (by decide +kernel) (by decide +kernel), tb_at 336 (by decide +kernel) (by decide +kernel), cm_X5_hours, by decide⟩
set_option maxRecDepth 100000 in
theorem cm_X6_hours : cm_c mX6_hours 3 := ⟨tb_at 795 (by decide +kernel) (by decide +kernel), tb_at 29 (by decide +kernel) (by decide +kernel), ⟨by decide +kernel, by decide +kernel, by decide +kernel⟩, by decide, by decide +kernel⟩
set_option maxRecDepth 100000 in
theorem cv_L_48 : cv_c RL 48 mX6_hours 6 3 := ⟨by decide, rfl, tb_at 792 (by decide +kernel) (by decide +kernel), tb_at 793 (by decide +kernel) (by decide +kernel), tb_at 794 (by decide +kernel) (by decide +kernel), cm_X6_hours, by decide⟩
set_option maxRecDepth 100000 in
theorem cm_X5_promise : cm_c mX5_promise 4 := ⟨tb_at 341 (by decide +kernel) (by decide +kernel), tb_at 25 (by decide +kernel) (by decide +kernel), ⟨by decide +kernel, by decide +kernel, by decide +kernel⟩, by decide, by decide +kernel⟩
set_option maxRecDepth 100000 in
theorem cv_L_49 : cv_c RL 49 mX5_promise 5 4 := ⟨by decide, rfl, tb_at 338 (by decide +kernel) (by decide +kernel), tb_at 339 (by decide +kernel) (by decide +kernel), tb_at 340 (by decide +kernel) (by decide +kernel), cm_X5_promise, by decide⟩
set_option maxRecDepth 100000 in
theorem cm_X6_promise : cm_c mX6_promise 4 := ⟨tb_at 799 (by decide +kernel) (by decide +kernel), tb_at 29 (by decide +kernel) (by decide +kernel), ⟨by decide +kernel, by decide +kernel, by decide +kernel⟩, by decide, by decide +kernel⟩
set_option maxRecDepth 100000 in
theorem cv_L_53 : cv_c RL 53 mX6_promise 6 4 := ⟨by decide, rfl, tb_at 796 (by decide +kernel) (by decide +kernel), tb_at 797 (by decide +kernel) (by decide +kernel), tb_at 798 (by decide +kernel) (by decide +kernel), cm_X6_promise, by decide⟩
set_option maxRecDepth 100000 in
theorem cm_X5_plan : cm_c mX5_plan 1 := ⟨tb_at 345 (by decide +kernel) (by decide +kernel), tb_at 25 (by decide +kernel) (by decide +kernel), ⟨by decide +kernel, by decide +kernel, by decide +kernel⟩, by decide, by decide +kernel⟩
set_option maxRecDepth 100000 in
theorem cv_L_54 : cv_c RL 54 mX5_plan 5 1 := ⟨by decide, rfl, tb_at 342 (by decide +kernel) (by decide +kernel), tb_at 343 (by decide +kernel) (by decide +kernel), tb_at 344 (by decide +kernel) (by decide +kernel), cm_X5_plan, by decide⟩
set_option maxRecDepth 100000 in
theorem cm_X6_plan : cm_c mX6_plan 1 := ⟨tb_at 803 (by decide +kernel) (by decide +kernel), tb_at 29 (by decide +kernel) (by decide +kernel), ⟨by decide +kernel, by decide +kernel, by decide +kernel⟩, by decide, by decide +kernel⟩
set_option maxRecDepth 100000 in
theorem cv_L_57 : cv_c RL 57 mX6_plan 6 1 := ⟨by decide, rfl, tb_at 800 (by decide +kernel) (by decide +kernel), tb_at 801 (by decide +kernel) (by decide +kernel), tb_at 802 (by decide +kernel) (by decide +kernel), cm_X6_plan, by decide⟩
set_option maxRecDepth 100000 in
theorem cm_X5_planned : cm_c mX5_planned 2 := ⟨tb_at 378 (by decide +kernel) (by decide +kernel), tb_at 25 (by decide +kernel) (by decide +kernel), ⟨by decide +kernel, by decide +kernel, by decide +kernel⟩, by decide, by decide +kernel⟩
set_option maxRecDepth 100000 in
theorem cv_L_58 : cv_c RL 58 mX5_planned 5 2 := ⟨by decide, rfl, tb_at 375 (by decide +kernel) (by decide +kernel), tb_at 376 (by decide +kernel) (by decide +kernel), tb_at 377 (by decide +kernel) (by decide +kernel), cm_X5_planned, by decide⟩
set_option maxRecDepth 100000 in
theorem cm_X6_planned : cm_c mX6_planned 2 := ⟨tb_at 815 (by decide +kernel) (by decide +kernel), tb_at 29 (by decide +kernel) (by decide +kernel), ⟨by decide +kernel, by decide +kernel, by decide +kernel⟩, by decide, by decide +kernel⟩
set_option maxRecDepth 100000 in
theorem cv_L_61 : cv_c RL 61 mX6_planned 6 2 := ⟨by decide, rfl, tb_at 812 (by decide +kernel) (by decide +kernel), tb_at 813 (by decide +kernel) (by decide +kernel), tb_at 814 (by decide +kernel) (by decide +kernel), cm_X6_planned, by decide⟩
set_option maxRecDepth 100000 in
theorem cm_X5_delays : cm_c mX5_delays 1 := ⟨tb_at 391 (by decide +kernel) (by decide +kernel), tb_at 25 (by decide +kernel) (by decide +kernel), ⟨by decide +kernel, by decide +kernel, by decide +kernel⟩, by decide, by decide +kernel⟩
set_option maxRecDepth 100000 in
theorem cv_L_62 : cv_c RL 62 mX5_delays 5 1 := ⟨by decide, rfl, tb_at 388 (by decide +kernel) (by decide +kernel), tb_at 389 (by decide +kernel) (by decide +kernel), tb_at 390 (by decide +kernel) (by decide +kernel), cm_X5_delays, by decide⟩
set_option maxRecDepth 100000 in
theorem cm_X6_delays : cm_c mX6_delays 1 := ⟨tb_at 819 (by decide +kernel) (by decide +kernel), tb_at 29 (by decide +kernel) (by decide +kernel), ⟨by decide +kernel, by decide +kernel, by decide +kernel⟩, by decide, by decide +kernel⟩
set_option maxRecDepth 100000 in
theorem cv_L_65 : cv_c RL 65 mX6_delays 6 1 := ⟨by decide, rfl, tb_at 816 (by decide +kernel) (by decide +kernel), tb_at 817 (by decide +kernel) (by decide +kernel), tb_at 818 (by decide +kernel) (by decide +kernel), cm_X6_delays, by decide⟩
set_option maxRecDepth 100000 in
theorem cm_X5_width : cm_c mX5_width 2 := ⟨tb_at 404 (by decide +kernel) (by decide +kernel), tb_at 25 (by decide +kernel) (by decide +kernel), ⟨by decide +kernel, by decide +kernel, by decide +kernel⟩, by decide, by decide +kernel⟩
set_option maxRecDepth 100000 in
theorem cv_L_66 : cv_c RL 66 mX5_width 5 2 := ⟨by decide, rfl, tb_at 401 (by decide +kernel) (by decide +kernel), tb_at 402 (by decide +kernel) (by decide +kernel), tb_at 403 (by decide +kernel) (by decide +kernel), cm_X5_width, by decide⟩
set_option maxRecDepth 100000 in
theorem cm_X6_width : cm_c mX6_width 2 := ⟨tb_at 823 (by decide +kernel) (by decide +kernel), tb_at 29 (by decide +kernel) (by decide +kernel), ⟨by decide +kernel, by decide +kernel, by decide +kernel⟩, by decide, by decide +kernel⟩
set_option maxRecDepth 100000 in
theorem cv_L_69 : cv_c RL 69 mX6_width 6 2 := ⟨by decide, rfl, tb_at 820 (by decide +kernel) (by decide +kernel), tb_at 821 (by decide +kernel) (by decide +kernel), tb_at 822 (by decide +kernel) (by decide +kernel), cm_X6_width, by decide⟩
set_option maxRecDepth 100000 in
theorem cm_X5_sign : cm_c mX5_sign 1 := ⟨tb_at 411 (by decide +kernel) (by decide +kernel), tb_at 25 (by decide +kernel) (by decide +kernel), ⟨by decide +kernel, by decide +kernel, by decide +kernel⟩, by decide, by decide +kernel⟩
set_option maxRecDepth 100000 in
theorem cv_L_70 : cv_c RL 70 mX5_sign 5 1 := ⟨by decide, rfl, tb_at 408 (by decide +kernel) (by decide +kernel), tb_at 409 (by decide +kernel) (by decide +kernel), tb_at 410 (by decide +kernel) (by decide +kernel), cm_X5_sign, by decide⟩
set_option maxRecDepth 100000 in
theorem cm_X6_sign : cm_c mX6_sign 1 := ⟨tb_at 827 (by decide +kernel) (by decide +kernel), tb_at 29 (by decide +kernel) (by decide +kernel), ⟨by decide +kernel, by decide +kernel, by decide +kernel⟩, by decide, by decide +kernel⟩
set_option maxRecDepth 100000 in
theorem cv_L_73 : cv_c RL 73 mX6_sign 6 1 := ⟨by decide, rfl, tb_at 824 (by decide +kernel) (by decide +kernel), tb_at 825 (by decide +kernel) (by decide +kernel), tb_at 826 (by decide +kernel) (by decide +kernel), cm_X6_sign, by decide⟩
set_option maxRecDepth 100000 in
theorem cm_X5_wipe : cm_c mX5_wipe 0 := ⟨tb_at 419 (by decide +kernel) (by decide +kernel), tb_at 25 (by decide +kernel) (by decide +kernel), ⟨by decide +kernel, by decide +kernel, by decide +kernel⟩, by decide, by decide +kernel⟩
set_option maxRecDepth 100000 in
theorem cv_L_74 : cv_c RL 74 mX5_wipe 5 0 := ⟨by decide, rfl, tb_at 416 (by decide +kernel) (by decide +kernel), tb_at 417 (by decide +kernel) (by decide +kernel), tb_at 418 (by decide +kernel) (by decide +kernel), cm_X5_wipe, by decide⟩
set_option maxRecDepth 100000 in
theorem cm_X6_wipe : cm_c mX6_wipe 0 := ⟨tb_at 831 (by decide +kernel) (by decide +kernel), tb_at 29 (by decide +kernel) (by decide +kernel), ⟨by decide +kernel, by decide +kernel, by decide +kernel⟩, by decide, by decide +kernel⟩
set_option maxRecDepth 100000 in
theorem cv_L_77 : cv_c RL 77 mX6_wipe 6 0 := ⟨by decide, rfl, tb_at 828 (by decide +kernel) (by decide +kernel), tb_at 829 (by decide +kernel) (by decide +kernel), tb_at 830 (by decide +kernel) (by decide +kernel), cm_X6_wipe, by decide⟩
set_option maxRecDepth 100000 in
theorem cm_X5_broken : cm_c mX5_broken 2 := ⟨tb_at 423 (by decide +kernel) (by decide +kernel), tb_at 25 (by decide +kernel) (by decide +kernel), ⟨by decide +kernel, by decide +kernel, by decide +kernel⟩, by decide, by decide +kernel⟩
set_option maxRecDepth 100000 in
theorem cv_L_78 : cv_c RL 78 mX5_broken 5 2 := ⟨by decide, rfl, tb_at 420 (by decide +kernel) (by decide +kernel), tb_at 421 (by decide +kernel) (by decide +kernel), tb_at 422 (by decide +kernel) (by decide +kernel), cm_X5_broken, by decide⟩
set_option maxRecDepth 100000 in
theorem cm_X6_broken : cm_c mX6_broken 2 := ⟨tb_at 835 (by decide +kernel) (by decide +kernel), tb_at 29 (by decide +kernel) (by decide +kernel), ⟨by decide +kernel, by decide +kernel, by decide +kernel⟩, by decide, by decide +kernel⟩
set_option maxRecDepth 100000 in
theorem cv_L_81 : cv_c RL 81 mX6_broken 6 2 := ⟨by decide, rfl, tb_at 832 (by decide +kernel) (by decide +kernel), tb_at 833 (by decide +kernel) (by decide +kernel), tb_at 834 (by decide +kernel) (by decide +kernel), cm_X6_broken, by decide⟩
set_option maxRecDepth 100000 in
theorem cm_X5_line : cm_c mX5_line 1 := ⟨tb_at 444 (by decide +kernel) (by decide +kernel), tb_at 25 (by decide +kernel) (by decide +kernel), ⟨by decide +kernel, by decide +kernel, by decide +kernel⟩, by decide, by decide +kernel⟩
set_option maxRecDepth 100000 in
theorem cv_L_82 : cv_c RL 82 mX5_line 5 1 := ⟨by decide, rfl, tb_at 441 (by decide +kernel) (by decide +kernel), tb_at 442 (by decide +kernel) (by decide +kernel), tb_at 443 (by decide +kernel) (by decide +kernel), cm_X5_line, by decide⟩
set_option maxRecDepth 100000 in
theorem cm_X6_line : cm_c mX6_line 1 := ⟨tb_at 851 (by decide +kernel) (by decide +kernel), tb_at 29 (by decide +kernel) (by decide +kernel), ⟨by decide +kernel, by decide +kernel, by decide +kernel⟩, by decide, by decide +kernel⟩
set_option maxRecDepth 100000 in
theorem cv_L_85 : cv_c RL 85 mX6_line 6 1 := ⟨by decide, rfl, tb_at 848 (by decide +kernel) (by decide +kernel), tb_at 849 (by decide +kernel) (by decide +kernel), tb_at 850 (by decide +kernel) (by decide +kernel), cm_X6_line, by decide⟩
set_option maxRecDepth 100000 in
theorem cm_X5_stamp : cm_c mX5_stamp 0 := ⟨tb_at 448 (by decide +kernel) (by decide +kernel), tb_at 25 (by decide +kernel) (by decide +kernel), ⟨by decide +kernel, by decide +kernel, by decide +kernel⟩, by decide, by decide +kernel⟩
set_option maxRecDepth 100000 in
theorem cv_L_86 : cv_c RL 86 mX5_stamp 5 0 := ⟨by decide, rfl, tb_at 445 (by decide +kernel) (by decide +kernel), tb_at 446 (by decide +kernel) (by decide +kernel), tb_at 447 (by decide +kernel) (by decide +kernel), cm_X5_stamp, by decide⟩
set_option maxRecDepth 100000 in
theorem cm_X6_stamp : cm_c mX6_stamp 0 := ⟨tb_at 855 (by decide +kernel) (by decide +kernel), tb_at 29 (by decide +kernel) (by decide +kernel), ⟨by decide +kernel, by decide +kernel, by decide +kernel⟩, by decide, by decide +kernel⟩
set_option maxRecDepth 100000 in
theorem cv_L_89 : cv_c RL 89 mX6_stamp 6 0 := ⟨by decide, rfl, tb_at 852 (by decide +kernel) (by decide +kernel), tb_at 853 (by decide +kernel) (by decide +kernel), tb_at 854 (by decide +kernel) (by decide +kernel), cm_X6_stamp, by decide⟩
set_option maxRecDepth 100000 in
theorem cm_X5_sharpen : cm_c mX5_sharpen 1 := ⟨tb_at 464 (by decide +kernel) (by decide +kernel), tb_at 25 (by decide +kernel) (by decide +kernel), ⟨by decide +kernel, by decide +kernel, by decide +kernel⟩, by decide, by decide +kernel⟩
set_option maxRecDepth 100000 in
theorem cv_L_90 : cv_c RL 90 mX5_sharpen 5 1 := ⟨by decide, rfl, tb_at 461 (by decide +kernel) (by decide +kernel), tb_at 462 (by decide +kernel) (by decide +kernel), tb_at 463 (by decide +kernel) (by decide +kernel), cm_X5_sharpen, by decide⟩
set_option maxRecDepth 100000 in
theorem cm_X6_sharpen : cm_c mX6_sharpen 1 := ⟨tb_at 863 (by decide +kernel) (by decide +kernel), tb_at 29 (by decide +kernel) (by decide +kernel), ⟨by decide +kernel, by decide +kernel, by decide +kernel⟩, by decide, by decide +kernel⟩
set_option maxRecDepth 100000 in
theorem cv_L_93 : cv_c RL 93 mX6_sharpen 6 1 := ⟨by decide, rfl, tb_at 860 (by decide +kernel) (by decide +kernel), tb_at 861 (by decide +kernel) (by decide +kernel), tb_at 862 (by decide +kernel) (by decide +kernel), cm_X6_sharpen, by decide⟩
set_option maxRecDepth 100000 in
theorem cm_X5_last : cm_c mX5_last 1 := ⟨tb_at 468 (by decide +kernel) (by decide +kernel), tb_at 25 (by decide +kernel) (by decide +kernel), ⟨by decide +kernel, by decide +kernel, by decide +kernel⟩, by decide, by decide +kernel⟩
set_option maxRecDepth 100000 in
theorem cv_L_94 : cv_c RL 94 mX5_last 5 1 := ⟨by decide, rfl, tb_at 465 (by decide +kernel) (by decide +kernel), tb_at 466 (by decide +kernel) (by decide +kernel), tb_at 467 (by decide +kernel) (by decide +kernel), cm_X5_last, by decide⟩
set_option maxRecDepth 100000 in
theorem cm_X6_last : cm_c mX6_last 1 := ⟨tb_at 867 (by decide +kernel) (by decide +kernel), tb_at 29 (by decide +kernel) (by decide +kernel), ⟨by decide +kernel, by decide +kernel, by decide +kernel⟩, by decide, by decide +kernel⟩
set_option maxRecDepth 100000 in
theorem cv_L_97 : cv_c RL 97 mX6_last 6 1 := ⟨by decide, rfl, tb_at 864 (by decide +kernel) (by decide +kernel), tb_at 865 (by decide +kernel) (by decide +kernel), tb_at 866 (by decide +kernel) (by decide +kernel), cm_X6_last, by decide⟩
set_option maxRecDepth 100000 in
theorem cm_X5_skin : cm_c mX5_skin 3 := ⟨tb_at 472 (by decide +kernel) (by decide +kernel), tb_at 25 (by decide +kernel) (by decide +kernel), ⟨by decide +kernel, by decide +kernel, by decide +kernel⟩, by decide, by decide +kernel⟩
set_option maxRecDepth 100000 in
theorem cv_L_98 : cv_c RL 98 mX5_skin 5 3 := ⟨by decide, rfl, tb_at 469 (by decide +kernel) (by decide +kernel), tb_at 470 (by decide +kernel) (by decide +kernel), tb_at 471 (by decide +kernel) (by decide +kernel), cm_X5_skin, by decide⟩
set_option maxRecDepth 100000 in
theorem cm_X6_skin : cm_c mX6_skin 3 := ⟨tb_at 871 (by decide +kernel) (by decide +kernel), tb_at 29 (by decide +kernel) (by decide +kernel), ⟨by decide +kernel, by decide +kernel, by decide +kernel⟩, by decide, by decide +kernel⟩
set_option maxRecDepth 100000 in
theorem cv_L_101 : cv_c RL 101 mX6_skin 6 3 := ⟨by decide, rfl, tb_at 868 (by decide +kernel) (by decide +kernel), tb_at 869 (by decide +kernel) (by decide +kernel), tb_at 870 (by decide +kernel) (by decide +kernel), cm_X6_skin, by decide⟩
set_option maxRecDepth 100000 in
theorem cm_X5_flaw : cm_c mX5_flaw 3 := ⟨tb_at 504 (by decide +kernel) (by decide +kernel), tb_at 25 (by decide +kernel) (by decide +kernel), ⟨by decide +kernel, by decide +kernel, by decide +kernel⟩, by decide, by decide +kernel⟩
set_option maxRecDepth 100000 in
theorem cv_L_102 : cv_c RL 102 mX5_flaw 5 3 := ⟨by decide, rfl, tb_at 501 (by decide +kernel) (by decide +kernel), tb_at 502 (by decide +kernel) (by decide +kernel), tb_at 503 (by decide +kernel) (by decide +kernel), cm_X5_flaw, by decide⟩
set_option maxRecDepth 100000 in
theorem cm_X6_flaw : cm_c mX6_flaw 3 := ⟨tb_at 875 (by decide +kernel) (by decide +kernel), tb_at 29 (by decide +kernel) (by decide +kernel), ⟨by decide +kernel, by decide +kernel, by decide +kernel⟩, by decide, by decide +kernel⟩
set_option maxRecDepth 100000 in
theorem cv_L_105 : cv_c RL 105 mX6_flaw 6 3 := ⟨by decide, rfl, tb_at 872 (by decide +kernel) (by decide +kernel), tb_at 873 (by decide +kernel) (by decide +kernel), tb_at 874 (by decide +kernel) (by decide +kernel), cm_X6_flaw, by decide⟩
set_option maxRecDepth 100000 in
theorem cm_X5_cut : cm_c mX5_cut 3 := ⟨tb_at 525 (by decide +kernel) (by decide +kernel), tb_at 25 (by decide +kernel) (by decide +kernel), ⟨by decide +kernel, by decide +kernel, by decide +kernel⟩, by decide, by decide +kernel⟩
set_option maxRecDepth 100000 in
theorem cv_L_106 : cv_c RL 106 mX5_cut 5 3 := ⟨by decide, rfl, tb_at 522 (by decide +kernel) (by decide +kernel), tb_at 523 (by decide +kernel) (by decide +kernel), tb_at 524 (by decide +kernel) (by decide +kernel), cm_X5_cut, by decide⟩
set_option maxRecDepth 100000 in
theorem cm_X6_cut : cm_c mX6_cut 3 := ⟨tb_at 887 (by decide +kernel) (by decide +kernel), tb_at 29 (by decide +kernel) (by decide +kernel), ⟨by decide +kernel, by decide +kernel, by decide +kernel⟩, by decide, by decide +kernel⟩
set_option maxRecDepth 100000 in
theorem cv_L_109 : cv_c RL 109 mX6_cut 6 3 := ⟨by decide, rfl, tb_at 884 (by decide +kernel) (by decide +kernel), tb_at 885 (by decide +kernel) (by decide +kernel), tb_at 886 (by decide +kernel) (by decide +kernel), cm_X6_cut, by decide⟩
set_option maxRecDepth 100000 in
theorem cm_X5_covers : cm_c mX5_covers 4 := ⟨tb_at 542 (by decide +kernel) (by decide +kernel), tb_at 25 (by decide +kernel) (by decide +kernel), ⟨by decide +kernel, by decide +kernel, by decide +kernel⟩, by decide, by decide +kernel⟩
set_option maxRecDepth 100000 in
theorem cv_L_110 : cv_c RL 110 mX5_covers 5 4 := ⟨by decide, rfl, tb_at 539 (by decide +kernel) (by decide +kernel), tb_at 540 (by decide +kernel) (by decide +kernel), tb_at 541 (by decide +kernel) (by decide +kernel), cm_X5_covers, by decide⟩
set_option maxRecDepth 100000 in
theorem cm_X6_covers : cm_c mX6_covers 4 := ⟨tb_at 903 (by decide +kernel) (by decide +kernel), tb_at 29 (by decide +kernel) (by decide +kernel), ⟨by decide +kernel, by decide +kernel, by decide +kernel⟩, by decide, by decide +kernel⟩
set_option maxRecDepth 100000 in
theorem cv_L_113 : cv_c RL 113 mX6_covers 6 4 := ⟨by decide, rfl, tb_at 900 (by decide +kernel) (by decide +kernel), tb_at 901 (by decide +kernel) (by decide +kernel), tb_at 902 (by decide +kernel) (by decide +kernel), cm_X6_covers, by decide⟩
set_option maxRecDepth 100000 in
theorem cm_X5_spot : cm_c mX5_spot 3 := ⟨tb_at 559 (by decide +kernel) (by decide +kernel), tb_at 25 (by decide +kernel) (by decide +kernel), ⟨by decide +kernel, by decide +kernel, by decide +kernel⟩, by decide, by decide +kernel⟩
set_option maxRecDepth 100000 in
theorem cv_L_114 : cv_c RL 114 mX5_spot 5 3 := ⟨by decide, rfl, tb_at 556 (by decide +kernel) (by decide +kernel), tb_at 557 (by decide +kernel) (by decide +kernel), tb_at 558 (by decide +kernel) (by decide +kernel), cm_X5_spot, by decide⟩
set_option maxRecDepth 100000 in
theorem cm_X6_spot : cm_c mX6_spot 3 := ⟨tb_at 907 (by decide +kernel) (by decide +kernel), tb_at 29 (by decide +kernel) (by decide +kernel), ⟨by decide +kernel, by decide +kernel, by decide +kernel⟩, by decide, by decide +kernel⟩
set_option maxRecDepth 100000 in
theorem cv_L_117 : cv_c RL 117 mX6_spot 6 3 := ⟨by decide, rfl, tb_at 904 (by decide +kernel) (by decide +kernel), tb_at 905 (by decide +kernel) (by decide +kernel), tb_at 906 (by decide +kernel) (by decide +kernel), cm_X6_spot, by decide⟩
set_option maxRecDepth 100000 in
theorem cm_X5_days : cm_c mX5_days 1 := ⟨tb_at 563 (by decide +kernel) (by decide +kernel), tb_at 25 (by decide +kernel) (by decide +kernel), ⟨by decide +kernel, by decide +kernel, by decide +kernel⟩, by decide, by decide +kernel⟩
set_option maxRecDepth 100000 in
theorem cv_L_118 : cv_c RL 118 mX5_days 5 1 := ⟨by decide, rfl, tb_at 560 (by decide +kernel) (by decide +kernel), tb_at 561 (by decide +kernel) (by decide +kernel), tb_at 562 (by decide +kernel) (by decide +kernel), cm_X5_days, by decide⟩
set_option maxRecDepth 100000 in
theorem cm_X6_days : cm_c mX6_days 1 := ⟨tb_at 911 (by decide +kernel) (by decide +kernel), tb_at 29 (by decide +kernel) (by decide +kernel), ⟨by decide +kernel, by decide +kernel, by decide +kernel⟩, by decide, by decide +kernel⟩
set_option maxRecDepth 100000 in
theorem cv_L_121 : cv_c RL 121 mX6_days 6 1 := ⟨by decide, rfl, tb_at 908 (by decide +kernel) (by decide +kernel), tb_at 909 (by decide +kernel) (by decide +kernel), tb_at 910 (by decide +kernel) (by decide +kernel), cm_X6_days, by decide⟩
set_option maxRecDepth 100000 in
theorem cm_X5_rate : cm_c mX5_rate 3 := ⟨tb_at 567 (by decide +kernel) (by decide +kernel), tb_at 25 (by decide +kernel) (by decide +kernel), ⟨by decide +kernel, by decide +kernel, by decide +kernel⟩, by decide, by decide +kernel⟩
set_option maxRecDepth 100000 in
theorem cv_L_122 : cv_c RL 122 mX5_rate 5 3 := ⟨by decide, rfl, tb_at 564 (by decide +kernel) (by decide +kernel), tb_at 565 (by decide +kernel) (by decide +kernel), tb_at 566 (by decide +kernel) (by decide +kernel), cm_X5_rate, by decide⟩
set_option maxRecDepth 100000 in
theorem cm_X6_rate : cm_c mX6_rate 3 := ⟨tb_at 915 (by decide +kernel) (by decide +kernel), tb_at 29 (by decide +kernel) (by decide +kernel), ⟨by decide +kernel, by decide +kernel, by decide +kernel⟩, by decide, by decide +kernel⟩
set_option maxRecDepth 100000 in
theorem cv_L_125 : cv_c RL 125 mX6_rate 6 3 := ⟨by decide, rfl, tb_at 912 (by decide +kernel) (by decide +kernel), tb_at 913 (by decide +kernel) (by decide +kernel), tb_at 914 (by decide +kernel) (by decide +kernel), cm_X6_rate, by decide⟩
set_option maxRecDepth 100000 in
theorem cm_X5_rateAt : cm_c mX5_rateAt 3 := ⟨tb_at 578 (by decide +kernel) (by decide +kernel), tb_at 25 (by decide +kernel) (by decide +kernel), ⟨by decide +kernel, by decide +kernel, by decide +kernel⟩, by decide, by decide +kernel⟩
set_option maxRecDepth 100000 in
theorem cv_L_126 : cv_c RL 126 mX5_rateAt 5 3 := ⟨by decide, rfl, tb_at 575 (by decide +kernel) (by decide +kernel), tb_at 576 (by decide +kernel) (by decide +kernel), tb_at 577 (by decide +kernel) (by decide +kernel), cm_X5_rateAt, by decide⟩
set_option maxRecDepth 100000 in
theorem cm_X6_rateAt : cm_c mX6_rateAt 3 := ⟨tb_at 922 (by decide +kernel) (by decide +kernel), tb_at 29 (by decide +kernel) (by decide +kernel), ⟨by decide +kernel, by decide +kernel, by decide +kernel⟩, by decide, by decide +kernel⟩
set_option maxRecDepth 100000 in
theorem cv_L_129 : cv_c RL 129 mX6_rateAt 6 3 := ⟨by decide, rfl, tb_at 919 (by decide +kernel) (by decide +kernel), tb_at 920 (by decide +kernel) (by decide +kernel), tb_at 921 (by decide +kernel) (by decide +kernel), cm_X6_rateAt, by decide⟩
set_option maxRecDepth 100000 in
theorem cm_X5_wages : cm_c mX5_wages 3 := ⟨tb_at 586 (by decide +kernel) (by decide +kernel), tb_at 25 (by decide +kernel) (by decide +kernel), ⟨by decide +kernel, by decide +kernel, by decide +kernel⟩, by decide, by decide +kernel⟩
set_option maxRecDepth 100000 in
theorem cv_L_130 : cv_c RL 130 mX5_wages 5 3 := ⟨by decide, rfl, tb_at 583 (by decide +kernel) (by decide +kernel), tb_at 584 (by decide +kernel) (by decide +kernel), tb_at 585 (by decide +kernel) (by decide +kernel), cm_X5_wages, by decide⟩
set_option maxRecDepth 100000 in
theorem cm_X6_wages : cm_c mX6_wages 3 := ⟨tb_at 930 (by decide +kernel) (by decide +kernel), tb_at 29 (by decide +kernel) (by decide +kernel), ⟨by decide +kernel, by decide +kernel, by decide +kernel⟩, by decide, by decide +kernel⟩
set_option maxRecDepth 100000 in
theorem cv_L_133 : cv_c RL 133 mX6_wages 6 3 := ⟨by decide, rfl, tb_at 927 (by decide +kernel) (by decide +kernel), tb_at 928 (by decide +kernel) (by decide +kernel), tb_at 929 (by decide +kernel) (by decide +kernel), cm_X6_wages, by decide⟩
set_option maxRecDepth 100000 in
theorem cm_X5_count : cm_c mX5_count 1 := ⟨tb_at 596 (by decide +kernel) (by decide +kernel), tb_at 25 (by decide +kernel) (by decide +kernel), ⟨by decide +kernel, by decide +kernel, by decide +kernel⟩, by decide, by decide +kernel⟩
set_option maxRecDepth 100000 in
theorem cv_L_134 : cv_c RL 134 mX5_count 5 1 := ⟨by decide, rfl, tb_at 593 (by decide +kernel) (by decide +kernel), tb_at 594 (by decide +kernel) (by decide +kernel), tb_at 595 (by decide +kernel) (by decide +kernel), cm_X5_count, by decide⟩
set_option maxRecDepth 100000 in
theorem cm_X6_count : cm_c mX6_count 1 := ⟨tb_at 934 (by decide +kernel) (by decide +kernel), tb_at 29 (by decide +kernel) (by decide +kernel), ⟨by decide +kernel, by decide +kernel, by decide +kernel⟩, by decide, by decide +kernel⟩
set_option maxRecDepth 100000 in
theorem cv_L_137 : cv_c RL 137 mX6_count 6 1 := ⟨by decide, rfl, tb_at 931 (by decide +kernel) (by decide +kernel), tb_at 932 (by decide +kernel) (by decide +kernel), tb_at 933 (by decide +kernel) (by decide +kernel), cm_X6_count, by decide⟩
set_option maxRecDepth 100000 in
theorem ins_0 : Cond.instantiable (cl_R 0) (cl_n 0) ∈ tb_w ∧ Cond.initialized (cl_R 0) ∈ tb_w := ⟨tb_at 202 (by decide +kernel) (by decide +kernel), tb_at 30 (by decide +kernel) (by decide +kernel)⟩
set_option maxRecDepth 100000 in
theorem ins_1 : Cond.instantiable (cl_R 1) (cl_n 1) ∈ tb_w ∧ Cond.initialized (cl_R 1) ∈ tb_w := ⟨tb_at 141 (by decide +kernel) (by decide +kernel), tb_at 28 (by decide +kernel) (by decide +kernel)⟩
set_option maxRecDepth 100000 in
theorem ins_2 : Cond.instantiable (cl_R 2) (cl_n 2) ∈ tb_w ∧ Cond.initialized (cl_R 2) ∈ tb_w := ⟨tb_at 45 (by decide +kernel) (by decide +kernel), tb_at 26 (by decide +kernel) (by decide +kernel)⟩
set_option maxRecDepth 100000 in
theorem ins_3 : Cond.instantiable (cl_R 3) (cl_n 3) ∈ tb_w ∧ Cond.initialized (cl_R 3) ∈ tb_w := ⟨tb_at 476 (by decide +kernel) (by decide +kernel), tb_at 33 (by decide +kernel) (by decide +kernel)⟩
set_option maxRecDepth 100000 in
theorem ins_4 : Cond.instantiable (cl_R 4) (cl_n 4) ∈ tb_w ∧ Cond.initialized (cl_R 4) ∈ tb_w := ⟨tb_at 90 (by decide +kernel) (by decide +kernel), tb_at 27 (by decide +kernel) (by decide +kernel)⟩
set_option maxRecDepth 100000 in
theorem ins_5 : Cond.instantiable (cl_R 5) (cl_n 5) ∈ tb_w ∧ Cond.initialized (cl_R 5) ∈ tb_w := ⟨tb_at 35 (by decide +kernel) (by decide +kernel), tb_at 25 (by decide +kernel) (by decide +kernel)⟩
set_option maxRecDepth 100000 in
theorem ins_6 : Cond.instantiable (cl_R 6) (cl_n 6) ∈ tb_w ∧ Cond.initialized (cl_R 6) ∈ tb_w := ⟨tb_at 599 (by decide +kernel) (by decide +kernel), tb_at 29 (by decide +kernel) (by decide +kernel)⟩
set_option maxRecDepth 100000 in
theorem oi_w : Cond.instanceMethod objectInit ∈ tb_w ∧ Cond.code objectInit ⟨#[0xb1]⟩ 1 none ∈ tb_w := ⟨by decide +kernel, by decide +kernel⟩
set_option maxRecDepth 100000 in
theorem ar_w : Cond.arrayClass .int ∈ tb_w ∧ Cond.arrayClass .boolean ∈ tb_w := ⟨by decide +kernel, by decide +kernel⟩
set_option maxRecDepth 100000 in
theorem kc_J6_265 : Cond.constant RJ6 265 1431655765 ∈ tb_w := tb_at 292 (by decide +kernel) (by decide +kernel)
set_option maxRecDepth 100000 in
theorem kc_J6_266 : Cond.constant RJ6 266 858993459 ∈ tb_w := tb_at 293 (by decide +kernel) (by decide +kernel)
set_option maxRecDepth 100000 in
theorem kc_J6_267 : Cond.constant RJ6 267 252645135 ∈ tb_w := tb_at 294 (by decide +kernel) (by decide +kernel)
end
section
theorem dJ6_bitCount_0f7a4_0 : decode mJ6_bitCount_0f7a4.2.1 0 = .ok (.iload_n 0, 1) := by decide +kernel
theorem dJ6_bitCount_0f7a4_1 : decode mJ6_bitCount_0f7a4.2.1 1 = .ok (.iload_n 0, 1) := by decide +kernel
theorem dJ6_bitCount_0f7a4_2 : decode mJ6_bitCount_0f7a4.2.1 2 = .ok (.iconst 1, 1) := by decide +kernel
theorem dJ6_bitCount_0f7a4_3 : decode mJ6_bitCount_0f7a4.2.1 3 = .ok (.iushr, 1) := by decide +kernel
theorem dJ6_bitCount_0f7a4_4 : decode mJ6_bitCount_0f7a4.2.1 4 = .ok (.ldc_w 265, 3) := by decide +kernel
theorem dJ6_bitCount_0f7a4_7 : decode mJ6_bitCount_0f7a4.2.1 7 = .ok (.iand, 1) := by decide +kernel
theorem dJ6_bitCount_0f7a4_8 : decode mJ6_bitCount_0f7a4.2.1 8 = .ok (.isub, 1) := by decide +kernel
theorem dJ6_bitCount_0f7a4_9 : decode mJ6_bitCount_0f7a4.2.1 9 = .ok (.istore_n 0, 1) := by decide +kernel
theorem dJ6_bitCount_0f7a4_10 : decode mJ6_bitCount_0f7a4.2.1 10 = .ok (.iload_n 0, 1) := by decide +kernel
theorem dJ6_bitCount_0f7a4_11 : decode mJ6_bitCount_0f7a4.2.1 11 = .ok (.ldc_w 266, 3) := by decide +kernel
theorem dJ6_bitCount_0f7a4_14 : decode mJ6_bitCount_0f7a4.2.1 14 = .ok (.iand, 1) := by decide +kernel
theorem dJ6_bitCount_0f7a4_15 : decode mJ6_bitCount_0f7a4.2.1 15 = .ok (.iload_n 0, 1) := by decide +kernel
theorem dJ6_bitCount_0f7a4_16 : decode mJ6_bitCount_0f7a4.2.1 16 = .ok (.iconst 2, 1) := by decide +kernel
theorem dJ6_bitCount_0f7a4_17 : decode mJ6_bitCount_0f7a4.2.1 17 = .ok (.iushr, 1) := by decide +kernel
theorem dJ6_bitCount_0f7a4_18 : decode mJ6_bitCount_0f7a4.2.1 18 = .ok (.ldc_w 266, 3) := by decide +kernel
theorem dJ6_bitCount_0f7a4_21 : decode mJ6_bitCount_0f7a4.2.1 21 = .ok (.iand, 1) := by decide +kernel
theorem dJ6_bitCount_0f7a4_22 : decode mJ6_bitCount_0f7a4.2.1 22 = .ok (.iadd, 1) := by decide +kernel
theorem dJ6_bitCount_0f7a4_23 : decode mJ6_bitCount_0f7a4.2.1 23 = .ok (.istore_n 0, 1) := by decide +kernel
theorem dJ6_bitCount_0f7a4_24 : decode mJ6_bitCount_0f7a4.2.1 24 = .ok (.iload_n 0, 1) := by decide +kernel
theorem dJ6_bitCount_0f7a4_25 : decode mJ6_bitCount_0f7a4.2.1 25 = .ok (.iload_n 0, 1) := by decide +kernel
theorem dJ6_bitCount_0f7a4_26 : decode mJ6_bitCount_0f7a4.2.1 26 = .ok (.iconst 4, 1) := by decide +kernel
theorem dJ6_bitCount_0f7a4_27 : decode mJ6_bitCount_0f7a4.2.1 27 = .ok (.iushr, 1) := by decide +kernel
theorem dJ6_bitCount_0f7a4_28 : decode mJ6_bitCount_0f7a4.2.1 28 = .ok (.iadd, 1) := by decide +kernel
theorem dJ6_bitCount_0f7a4_29 : decode mJ6_bitCount_0f7a4.2.1 29 = .ok (.ldc_w 267, 3) := by decide +kernel
theorem dJ6_bitCount_0f7a4_32 : decode mJ6_bitCount_0f7a4.2.1 32 = .ok (.iand, 1) := by decide +kernel
theorem dJ6_bitCount_0f7a4_33 : decode mJ6_bitCount_0f7a4.2.1 33 = .ok (.istore_n 0, 1) := by decide +kernel
theorem dJ6_bitCount_0f7a4_34 : decode mJ6_bitCount_0f7a4.2.1 34 = .ok (.iload_n 0, 1) := by decide +kernel
theorem dJ6_bitCount_0f7a4_35 : decode mJ6_bitCount_0f7a4.2.1 35 = .ok (.iload_n 0, 1) := by decide +kernel
theorem dJ6_bitCount_0f7a4_36 : decode mJ6_bitCount_0f7a4.2.1 36 = .ok (.bipush 8, 2) := by decide +kernel
theorem dJ6_bitCount_0f7a4_38 : decode mJ6_bitCount_0f7a4.2.1 38 = .ok (.iushr, 1) := by decide +kernel
theorem dJ6_bitCount_0f7a4_39 : decode mJ6_bitCount_0f7a4.2.1 39 = .ok (.iadd, 1) := by decide +kernel
theorem dJ6_bitCount_0f7a4_40 : decode mJ6_bitCount_0f7a4.2.1 40 = .ok (.istore_n 0, 1) := by decide +kernel
theorem dJ6_bitCount_0f7a4_41 : decode mJ6_bitCount_0f7a4.2.1 41 = .ok (.iload_n 0, 1) := by decide +kernel
theorem dJ6_bitCount_0f7a4_42 : decode mJ6_bitCount_0f7a4.2.1 42 = .ok (.iload_n 0, 1) := by decide +kernel
theorem dJ6_bitCount_0f7a4_43 : decode mJ6_bitCount_0f7a4.2.1 43 = .ok (.bipush 16, 2) := by decide +kernel
theorem dJ6_bitCount_0f7a4_45 : decode mJ6_bitCount_0f7a4.2.1 45 = .ok (.iushr, 1) := by decide +kernel
theorem dJ6_bitCount_0f7a4_46 : decode mJ6_bitCount_0f7a4.2.1 46 = .ok (.iadd, 1) := by decide +kernel
theorem dJ6_bitCount_0f7a4_47 : decode mJ6_bitCount_0f7a4.2.1 47 = .ok (.istore_n 0, 1) := by decide +kernel
theorem dJ6_bitCount_0f7a4_48 : decode mJ6_bitCount_0f7a4.2.1 48 = .ok (.iload_n 0, 1) := by decide +kernel
theorem dJ6_bitCount_0f7a4_49 : decode mJ6_bitCount_0f7a4.2.1 49 = .ok (.bipush 63, 2) := by decide +kernel
theorem dJ6_bitCount_0f7a4_51 : decode mJ6_bitCount_0f7a4.2.1 51 = .ok (.iand, 1) := by decide +kernel
theorem dJ6_bitCount_0f7a4_52 : decode mJ6_bitCount_0f7a4.2.1 52 = .ok (.ireturn, 1) := by decide +kernel
end
section
theorem dJ9_max_7cf53_0 : decode mJ9_max_7cf53.2.1 0 = .ok (.iload_n 0, 1) := by decide +kernel
theorem dJ9_max_7cf53_1 : decode mJ9_max_7cf53.2.1 1 = .ok (.iload_n 1, 1) := by decide +kernel
theorem dJ9_max_7cf53_2 : decode mJ9_max_7cf53.2.1 2 = .ok (.if_icmp .lt 7, 3) := by decide +kernel
theorem dJ9_max_7cf53_5 : decode mJ9_max_7cf53.2.1 5 = .ok (.iload_n 0, 1) := by decide +kernel
theorem dJ9_max_7cf53_6 : decode mJ9_max_7cf53.2.1 6 = .ok (.goto 4, 3) := by decide +kernel
theorem dJ9_max_7cf53_9 : decode mJ9_max_7cf53.2.1 9 = .ok (.iload_n 1, 1) := by decide +kernel
theorem dJ9_max_7cf53_10 : decode mJ9_max_7cf53.2.1 10 = .ok (.ireturn, 1) := by decide +kernel
end
section
theorem dX0_init_0 : decode mX0_init.2.1 0 = .ok (.aload_n 0, 1) := by decide +kernel
theorem dX0_init_1 : decode mX0_init.2.1 1 = .ok (.invokespecial 3, 3) := by decide +kernel
theorem dX0_init_4 : decode mX0_init.2.1 4 = .ok (.aload_n 0, 1) := by decide +kernel
theorem dX0_init_5 : decode mX0_init.2.1 5 = .ok (.bipush 6, 2) := by decide +kernel
theorem dX0_init_7 : decode mX0_init.2.1 7 = .ok (.newarray .int, 2) := by decide +kernel
theorem dX0_init_9 : decode mX0_init.2.1 9 = .ok (.putfield 9, 3) := by decide +kernel
theorem dX0_init_12 : decode mX0_init.2.1 12 = .ok (.aload_n 0, 1) := by decide +kernel
theorem dX0_init_13 : decode mX0_init.2.1 13 = .ok (.bipush 6, 2) := by decide +kernel
theorem dX0_init_15 : decode mX0_init.2.1 15 = .ok (.newarray .int, 2) := by decide +kernel
theorem dX0_init_17 : decode mX0_init.2.1 17 = .ok (.putfield 15, 3) := by decide +kernel
theorem dX0_init_20 : decode mX0_init.2.1 20 = .ok (.aload_n 0, 1) := by decide +kernel
theorem dX0_init_21 : decode mX0_init.2.1 21 = .ok (.iconst 5, 1) := by decide +kernel
theorem dX0_init_22 : decode mX0_init.2.1 22 = .ok (.newarray .int, 2) := by decide +kernel
theorem dX0_init_24 : decode mX0_init.2.1 24 = .ok (.putfield 18, 3) := by decide +kernel
theorem dX0_init_27 : decode mX0_init.2.1 27 = .ok (.aload_n 0, 1) := by decide +kernel
theorem dX0_init_28 : decode mX0_init.2.1 28 = .ok (.iconst 5, 1) := by decide +kernel
theorem dX0_init_29 : decode mX0_init.2.1 29 = .ok (.newarray .int, 2) := by decide +kernel
theorem dX0_init_31 : decode mX0_init.2.1 31 = .ok (.putfield 21, 3) := by decide +kernel
theorem dX0_init_34 : decode mX0_init.2.1 34 = .ok (.aload_n 0, 1) := by decide +kernel
theorem dX0_init_35 : decode mX0_init.2.1 35 = .ok (.iconst 5, 1) := by decide +kernel
theorem dX0_init_36 : decode mX0_init.2.1 36 = .ok (.newarray .int, 2) := by decide +kernel
theorem dX0_init_38 : decode mX0_init.2.1 38 = .ok (.putfield 24, 3) := by decide +kernel
theorem dX0_init_41 : decode mX0_init.2.1 41 = .ok (.aload_n 0, 1) := by decide +kernel
theorem dX0_init_42 : decode mX0_init.2.1 42 = .ok (.iconst 0, 1) := by decide +kernel
theorem dX0_init_43 : decode mX0_init.2.1 43 = .ok (.putfield 27, 3) := by decide +kernel
theorem dX0_init_46 : decode mX0_init.2.1 46 = .ok (.aload_n 0, 1) := by decide +kernel
theorem dX0_init_47 : decode mX0_init.2.1 47 = .ok (.iconst 0, 1) := by decide +kernel
theorem dX0_init_48 : decode mX0_init.2.1 48 = .ok (.putfield 31, 3) := by decide +kernel
theorem dX0_init_51 : decode mX0_init.2.1 51 = .ok (.aload_n 0, 1) := by decide +kernel
theorem dX0_init_52 : decode mX0_init.2.1 52 = .ok (.iconst 0, 1) := by decide +kernel
theorem dX0_init_53 : decode mX0_init.2.1 53 = .ok (.putfield 34, 3) := by decide +kernel
theorem dX0_init_56 : decode mX0_init.2.1 56 = .ok (.aload_n 0, 1) := by decide +kernel
theorem dX0_init_57 : decode mX0_init.2.1 57 = .ok (.iconst 0, 1) := by decide +kernel
theorem dX0_init_58 : decode mX0_init.2.1 58 = .ok (.putfield 37, 3) := by decide +kernel
theorem dX0_init_61 : decode mX0_init.2.1 61 = .ok (.aload_n 0, 1) := by decide +kernel
theorem dX0_init_62 : decode mX0_init.2.1 62 = .ok (.sipush 2000, 3) := by decide +kernel
theorem dX0_init_65 : decode mX0_init.2.1 65 = .ok (.putfield 40, 3) := by decide +kernel
theorem dX0_init_68 : decode mX0_init.2.1 68 = .ok (.aload_n 0, 1) := by decide +kernel
theorem dX0_init_69 : decode mX0_init.2.1 69 = .ok (.iconst 0, 1) := by decide +kernel
theorem dX0_init_70 : decode mX0_init.2.1 70 = .ok (.putfield 43, 3) := by decide +kernel
theorem dX0_init_73 : decode mX0_init.2.1 73 = .ok (.iconst 0, 1) := by decide +kernel
theorem dX0_init_74 : decode mX0_init.2.1 74 = .ok (.istore_n 1, 1) := by decide +kernel
theorem dX0_init_75 : decode mX0_init.2.1 75 = .ok (.iload_n 1, 1) := by decide +kernel
theorem dX0_init_76 : decode mX0_init.2.1 76 = .ok (.iconst 5, 1) := by decide +kernel
theorem dX0_init_77 : decode mX0_init.2.1 77 = .ok (.if_icmp .ge 16, 3) := by decide +kernel
theorem dX0_init_80 : decode mX0_init.2.1 80 = .ok (.aload_n 0, 1) := by decide +kernel
theorem dX0_init_81 : decode mX0_init.2.1 81 = .ok (.getfield 24, 3) := by decide +kernel
theorem dX0_init_84 : decode mX0_init.2.1 84 = .ok (.iload_n 1, 1) := by decide +kernel
theorem dX0_init_85 : decode mX0_init.2.1 85 = .ok (.iconst 1, 1) := by decide +kernel
theorem dX0_init_86 : decode mX0_init.2.1 86 = .ok (.iastore, 1) := by decide +kernel
theorem dX0_init_87 : decode mX0_init.2.1 87 = .ok (.iinc 1 1, 3) := by decide +kernel
theorem dX0_init_90 : decode mX0_init.2.1 90 = .ok (.goto (-15), 3) := by decide +kernel
theorem dX0_init_93 : decode mX0_init.2.1 93 = .ok (.return_, 1) := by decide +kernel
theorem dX0_addGathering_0 : decode mX0_addGathering.2.1 0 = .ok (.aload_n 0, 1) := by decide +kernel
theorem dX0_addGathering_1 : decode mX0_addGathering.2.1 1 = .ok (.getfield 27, 3) := by decide +kernel
theorem dX0_addGathering_4 : decode mX0_addGathering.2.1 4 = .ok (.bipush 6, 2) := by decide +kernel
theorem dX0_addGathering_6 : decode mX0_addGathering.2.1 6 = .ok (.if_icmp .lt 6, 3) := by decide +kernel
theorem dX0_addGathering_9 : decode mX0_addGathering.2.1 9 = .ok (.bipush (-6), 2) := by decide +kernel
theorem dX0_addGathering_11 : decode mX0_addGathering.2.1 11 = .ok (.ireturn, 1) := by decide +kernel
theorem dX0_addGathering_12 : decode mX0_addGathering.2.1 12 = .ok (.aload_n 0, 1) := by decide +kernel
theorem dX0_addGathering_13 : decode mX0_addGathering.2.1 13 = .ok (.getfield 9, 3) := by decide +kernel
theorem dX0_addGathering_16 : decode mX0_addGathering.2.1 16 = .ok (.aload_n 0, 1) := by decide +kernel
theorem dX0_addGathering_17 : decode mX0_addGathering.2.1 17 = .ok (.getfield 27, 3) := by decide +kernel
theorem dX0_addGathering_20 : decode mX0_addGathering.2.1 20 = .ok (.iload_n 1, 1) := by decide +kernel
theorem dX0_addGathering_21 : decode mX0_addGathering.2.1 21 = .ok (.iastore, 1) := by decide +kernel
theorem dX0_addGathering_22 : decode mX0_addGathering.2.1 22 = .ok (.aload_n 0, 1) := by decide +kernel
theorem dX0_addGathering_23 : decode mX0_addGathering.2.1 23 = .ok (.getfield 15, 3) := by decide +kernel
theorem dX0_addGathering_26 : decode mX0_addGathering.2.1 26 = .ok (.aload_n 0, 1) := by decide +kernel
theorem dX0_addGathering_27 : decode mX0_addGathering.2.1 27 = .ok (.getfield 27, 3) := by decide +kernel
theorem dX0_addGathering_30 : decode mX0_addGathering.2.1 30 = .ok (.iload_n 1, 1) := by decide +kernel
theorem dX0_addGathering_31 : decode mX0_addGathering.2.1 31 = .ok (.invokestatic 46, 3) := by decide +kernel
theorem dX0_addGathering_34 : decode mX0_addGathering.2.1 34 = .ok (.iastore, 1) := by decide +kernel
theorem dX0_addGathering_35 : decode mX0_addGathering.2.1 35 = .ok (.aload_n 0, 1) := by decide +kernel
theorem dX0_addGathering_36 : decode mX0_addGathering.2.1 36 = .ok (.dup, 1) := by decide +kernel
theorem dX0_addGathering_37 : decode mX0_addGathering.2.1 37 = .ok (.getfield 27, 3) := by decide +kernel
theorem dX0_addGathering_40 : decode mX0_addGathering.2.1 40 = .ok (.iconst 1, 1) := by decide +kernel
theorem dX0_addGathering_41 : decode mX0_addGathering.2.1 41 = .ok (.iadd, 1) := by decide +kernel
theorem dX0_addGathering_42 : decode mX0_addGathering.2.1 42 = .ok (.putfield 27, 3) := by decide +kernel
theorem dX0_addGathering_45 : decode mX0_addGathering.2.1 45 = .ok (.aload_n 0, 1) := by decide +kernel
theorem dX0_addGathering_46 : decode mX0_addGathering.2.1 46 = .ok (.getfield 27, 3) := by decide +kernel
theorem dX0_addGathering_49 : decode mX0_addGathering.2.1 49 = .ok (.iconst 1, 1) := by decide +kernel
theorem dX0_addGathering_50 : decode mX0_addGathering.2.1 50 = .ok (.isub, 1) := by decide +kernel
theorem dX0_addGathering_51 : decode mX0_addGathering.2.1 51 = .ok (.ireturn, 1) := by decide +kernel
theorem dX0_hasGathering_0 : decode mX0_hasGathering.2.1 0 = .ok (.iload_n 1, 1) := by decide +kernel
theorem dX0_hasGathering_1 : decode mX0_hasGathering.2.1 1 = .ok (.iconst 0, 1) := by decide +kernel
theorem dX0_hasGathering_2 : decode mX0_hasGathering.2.1 2 = .ok (.aload_n 0, 1) := by decide +kernel
theorem dX0_hasGathering_3 : decode mX0_hasGathering.2.1 3 = .ok (.getfield 27, 3) := by decide +kernel
theorem dX0_hasGathering_6 : decode mX0_hasGathering.2.1 6 = .ok (.iconst 1, 1) := by decide +kernel
theorem dX0_hasGathering_7 : decode mX0_hasGathering.2.1 7 = .ok (.isub, 1) := by decide +kernel
theorem dX0_hasGathering_8 : decode mX0_hasGathering.2.1 8 = .ok (.invokestatic 50, 3) := by decide +kernel
theorem dX0_hasGathering_11 : decode mX0_hasGathering.2.1 11 = .ok (.ireturn, 1) := by decide +kernel
theorem dX0_hasLeaves_0 : decode mX0_hasLeaves.2.1 0 = .ok (.iload_n 2, 1) := by decide +kernel
theorem dX0_hasLeaves_1 : decode mX0_hasLeaves.2.1 1 = .ok (.aload_n 0, 1) := by decide +kernel
theorem dX0_hasLeaves_2 : decode mX0_hasLeaves.2.1 2 = .ok (.getfield 9, 3) := by decide +kernel
theorem dX0_hasLeaves_5 : decode mX0_hasLeaves.2.1 5 = .ok (.iload_n 1, 1) := by decide +kernel
theorem dX0_hasLeaves_6 : decode mX0_hasLeaves.2.1 6 = .ok (.iaload, 1) := by decide +kernel
theorem dX0_hasLeaves_7 : decode mX0_hasLeaves.2.1 7 = .ok (.invokestatic 46, 3) := by decide +kernel
theorem dX0_hasLeaves_10 : decode mX0_hasLeaves.2.1 10 = .ok (.iconst (-1), 1) := by decide +kernel
theorem dX0_hasLeaves_11 : decode mX0_hasLeaves.2.1 11 = .ok (.ixor, 1) := by decide +kernel
theorem dX0_hasLeaves_12 : decode mX0_hasLeaves.2.1 12 = .ok (.iand, 1) := by decide +kernel
theorem dX0_hasLeaves_13 : decode mX0_hasLeaves.2.1 13 = .ok (.ifCond .ne 7, 3) := by decide +kernel
theorem dX0_hasLeaves_16 : decode mX0_hasLeaves.2.1 16 = .ok (.iconst 1, 1) := by decide +kernel
theorem dX0_hasLeaves_17 : decode mX0_hasLeaves.2.1 17 = .ok (.goto 4, 3) := by decide +kernel
theorem dX0_hasLeaves_20 : decode mX0_hasLeaves.2.1 20 = .ok (.iconst 0, 1) := by decide +kernel
theorem dX0_hasLeaves_21 : decode mX0_hasLeaves.2.1 21 = .ok (.ireturn, 1) := by decide +kernel
theorem dX0_inspect_0 : decode mX0_inspect.2.1 0 = .ok (.aload_n 0, 1) := by decide +kernel
theorem dX0_inspect_1 : decode mX0_inspect.2.1 1 = .ok (.getfield 15, 3) := by decide +kernel
theorem dX0_inspect_4 : decode mX0_inspect.2.1 4 = .ok (.iload_n 1, 1) := by decide +kernel
theorem dX0_inspect_5 : decode mX0_inspect.2.1 5 = .ok (.iaload, 1) := by decide +kernel
theorem dX0_inspect_6 : decode mX0_inspect.2.1 6 = .ok (.iload_n 2, 1) := by decide +kernel
theorem dX0_inspect_7 : decode mX0_inspect.2.1 7 = .ok (.iconst (-1), 1) := by decide +kernel
theorem dX0_inspect_8 : decode mX0_inspect.2.1 8 = .ok (.ixor, 1) := by decide +kernel
theorem dX0_inspect_9 : decode mX0_inspect.2.1 9 = .ok (.iand, 1) := by decide +kernel
theorem dX0_inspect_10 : decode mX0_inspect.2.1 10 = .ok (.invokestatic 54, 3) := by decide +kernel
theorem dX0_inspect_13 : decode mX0_inspect.2.1 13 = .ok (.istore_n 3, 1) := by decide +kernel
theorem dX0_inspect_14 : decode mX0_inspect.2.1 14 = .ok (.iload_n 2, 1) := by decide +kernel
theorem dX0_inspect_15 : decode mX0_inspect.2.1 15 = .ok (.aload_n 0, 1) := by decide +kernel
theorem dX0_inspect_16 : decode mX0_inspect.2.1 16 = .ok (.getfield 15, 3) := by decide +kernel
theorem dX0_inspect_19 : decode mX0_inspect.2.1 19 = .ok (.iload_n 1, 1) := by decide +kernel
theorem dX0_inspect_20 : decode mX0_inspect.2.1 20 = .ok (.iaload, 1) := by decide +kernel
theorem dX0_inspect_21 : decode mX0_inspect.2.1 21 = .ok (.iconst (-1), 1) := by decide +kernel
theorem dX0_inspect_22 : decode mX0_inspect.2.1 22 = .ok (.ixor, 1) := by decide +kernel
theorem dX0_inspect_23 : decode mX0_inspect.2.1 23 = .ok (.iand, 1) := by decide +kernel
theorem dX0_inspect_24 : decode mX0_inspect.2.1 24 = .ok (.invokestatic 54, 3) := by decide +kernel
theorem dX0_inspect_27 : decode mX0_inspect.2.1 27 = .ok (.istore 4, 2) := by decide +kernel
theorem dX0_inspect_29 : decode mX0_inspect.2.1 29 = .ok (.aload_n 0, 1) := by decide +kernel
theorem dX0_inspect_30 : decode mX0_inspect.2.1 30 = .ok (.getfield 31, 3) := by decide +kernel
theorem dX0_inspect_33 : decode mX0_inspect.2.1 33 = .ok (.iconst 5, 1) := by decide +kernel
theorem dX0_inspect_34 : decode mX0_inspect.2.1 34 = .ok (.if_icmp .ge 30, 3) := by decide +kernel
theorem dX0_inspect_37 : decode mX0_inspect.2.1 37 = .ok (.aload_n 0, 1) := by decide +kernel
theorem dX0_inspect_38 : decode mX0_inspect.2.1 38 = .ok (.getfield 18, 3) := by decide +kernel
theorem dX0_inspect_41 : decode mX0_inspect.2.1 41 = .ok (.aload_n 0, 1) := by decide +kernel
theorem dX0_inspect_42 : decode mX0_inspect.2.1 42 = .ok (.getfield 31, 3) := by decide +kernel
theorem dX0_inspect_45 : decode mX0_inspect.2.1 45 = .ok (.dup2, 1) := by decide +kernel
theorem dX0_inspect_46 : decode mX0_inspect.2.1 46 = .ok (.iaload, 1) := by decide +kernel
theorem dX0_inspect_47 : decode mX0_inspect.2.1 47 = .ok (.iload_n 3, 1) := by decide +kernel
theorem dX0_inspect_48 : decode mX0_inspect.2.1 48 = .ok (.iadd, 1) := by decide +kernel
theorem dX0_inspect_49 : decode mX0_inspect.2.1 49 = .ok (.iastore, 1) := by decide +kernel
theorem dX0_inspect_50 : decode mX0_inspect.2.1 50 = .ok (.aload_n 0, 1) := by decide +kernel
theorem dX0_inspect_51 : decode mX0_inspect.2.1 51 = .ok (.getfield 21, 3) := by decide +kernel
theorem dX0_inspect_54 : decode mX0_inspect.2.1 54 = .ok (.aload_n 0, 1) := by decide +kernel
theorem dX0_inspect_55 : decode mX0_inspect.2.1 55 = .ok (.getfield 31, 3) := by decide +kernel
theorem dX0_inspect_58 : decode mX0_inspect.2.1 58 = .ok (.dup2, 1) := by decide +kernel
theorem dX0_inspect_59 : decode mX0_inspect.2.1 59 = .ok (.iaload, 1) := by decide +kernel
theorem dX0_inspect_60 : decode mX0_inspect.2.1 60 = .ok (.iload 4, 2) := by decide +kernel
theorem dX0_inspect_62 : decode mX0_inspect.2.1 62 = .ok (.iadd, 1) := by decide +kernel
theorem dX0_inspect_63 : decode mX0_inspect.2.1 63 = .ok (.iastore, 1) := by decide +kernel
theorem dX0_inspect_64 : decode mX0_inspect.2.1 64 = .ok (.aload_n 0, 1) := by decide +kernel
theorem dX0_inspect_65 : decode mX0_inspect.2.1 65 = .ok (.getfield 15, 3) := by decide +kernel
theorem dX0_inspect_68 : decode mX0_inspect.2.1 68 = .ok (.iload_n 1, 1) := by decide +kernel
theorem dX0_inspect_69 : decode mX0_inspect.2.1 69 = .ok (.iload_n 2, 1) := by decide +kernel
theorem dX0_inspect_70 : decode mX0_inspect.2.1 70 = .ok (.iastore, 1) := by decide +kernel
theorem dX0_inspect_71 : decode mX0_inspect.2.1 71 = .ok (.aload_n 0, 1) := by decide +kernel
theorem dX0_inspect_72 : decode mX0_inspect.2.1 72 = .ok (.dup, 1) := by decide +kernel
theorem dX0_inspect_73 : decode mX0_inspect.2.1 73 = .ok (.getfield 34, 3) := by decide +kernel
theorem dX0_inspect_76 : decode mX0_inspect.2.1 76 = .ok (.iconst 1, 1) := by decide +kernel
theorem dX0_inspect_77 : decode mX0_inspect.2.1 77 = .ok (.iload_n 1, 1) := by decide +kernel
theorem dX0_inspect_78 : decode mX0_inspect.2.1 78 = .ok (.ishl, 1) := by decide +kernel
theorem dX0_inspect_79 : decode mX0_inspect.2.1 79 = .ok (.ior, 1) := by decide +kernel
theorem dX0_inspect_80 : decode mX0_inspect.2.1 80 = .ok (.putfield 34, 3) := by decide +kernel
theorem dX0_inspect_83 : decode mX0_inspect.2.1 83 = .ok (.iload_n 3, 1) := by decide +kernel
theorem dX0_inspect_84 : decode mX0_inspect.2.1 84 = .ok (.iload 4, 2) := by decide +kernel
theorem dX0_inspect_86 : decode mX0_inspect.2.1 86 = .ok (.iadd, 1) := by decide +kernel
theorem dX0_inspect_87 : decode mX0_inspect.2.1 87 = .ok (.ireturn, 1) := by decide +kernel
theorem dX0_mayMoveOn_0 : decode mX0_mayMoveOn.2.1 0 = .ok (.aload_n 0, 1) := by decide +kernel
theorem dX0_mayMoveOn_1 : decode mX0_mayMoveOn.2.1 1 = .ok (.getfield 31, 3) := by decide +kernel
theorem dX0_mayMoveOn_4 : decode mX0_mayMoveOn.2.1 4 = .ok (.iconst 5, 1) := by decide +kernel
theorem dX0_mayMoveOn_5 : decode mX0_mayMoveOn.2.1 5 = .ok (.if_icmp .eq 28, 3) := by decide +kernel
theorem dX0_mayMoveOn_8 : decode mX0_mayMoveOn.2.1 8 = .ok (.aload_n 0, 1) := by decide +kernel
theorem dX0_mayMoveOn_9 : decode mX0_mayMoveOn.2.1 9 = .ok (.getfield 27, 3) := by decide +kernel
theorem dX0_mayMoveOn_12 : decode mX0_mayMoveOn.2.1 12 = .ok (.ifCond .le 21, 3) := by decide +kernel
theorem dX0_mayMoveOn_15 : decode mX0_mayMoveOn.2.1 15 = .ok (.aload_n 0, 1) := by decide +kernel
theorem dX0_mayMoveOn_16 : decode mX0_mayMoveOn.2.1 16 = .ok (.getfield 34, 3) := by decide +kernel
theorem dX0_mayMoveOn_19 : decode mX0_mayMoveOn.2.1 19 = .ok (.aload_n 0, 1) := by decide +kernel
theorem dX0_mayMoveOn_20 : decode mX0_mayMoveOn.2.1 20 = .ok (.getfield 27, 3) := by decide +kernel
theorem dX0_mayMoveOn_23 : decode mX0_mayMoveOn.2.1 23 = .ok (.invokestatic 46, 3) := by decide +kernel
theorem dX0_mayMoveOn_26 : decode mX0_mayMoveOn.2.1 26 = .ok (.if_icmp .ne 7, 3) := by decide +kernel
theorem dX0_mayMoveOn_29 : decode mX0_mayMoveOn.2.1 29 = .ok (.iconst 1, 1) := by decide +kernel
theorem dX0_mayMoveOn_30 : decode mX0_mayMoveOn.2.1 30 = .ok (.goto 4, 3) := by decide +kernel
theorem dX0_mayMoveOn_33 : decode mX0_mayMoveOn.2.1 33 = .ok (.iconst 0, 1) := by decide +kernel
theorem dX0_mayMoveOn_34 : decode mX0_mayMoveOn.2.1 34 = .ok (.ireturn, 1) := by decide +kernel
theorem dX0_moveOn_0 : decode mX0_moveOn.2.1 0 = .ok (.aload_n 0, 1) := by decide +kernel
theorem dX0_moveOn_1 : decode mX0_moveOn.2.1 1 = .ok (.dup, 1) := by decide +kernel
theorem dX0_moveOn_2 : decode mX0_moveOn.2.1 2 = .ok (.getfield 31, 3) := by decide +kernel
theorem dX0_moveOn_5 : decode mX0_moveOn.2.1 5 = .ok (.iconst 1, 1) := by decide +kernel
theorem dX0_moveOn_6 : decode mX0_moveOn.2.1 6 = .ok (.iadd, 1) := by decide +kernel
theorem dX0_moveOn_7 : decode mX0_moveOn.2.1 7 = .ok (.putfield 31, 3) := by decide +kernel
theorem dX0_moveOn_10 : decode mX0_moveOn.2.1 10 = .ok (.aload_n 0, 1) := by decide +kernel
theorem dX0_moveOn_11 : decode mX0_moveOn.2.1 11 = .ok (.iconst 0, 1) := by decide +kernel
theorem dX0_moveOn_12 : decode mX0_moveOn.2.1 12 = .ok (.putfield 34, 3) := by decide +kernel
theorem dX0_moveOn_15 : decode mX0_moveOn.2.1 15 = .ok (.aload_n 0, 1) := by decide +kernel
theorem dX0_moveOn_16 : decode mX0_moveOn.2.1 16 = .ok (.getfield 31, 3) := by decide +kernel
theorem dX0_moveOn_19 : decode mX0_moveOn.2.1 19 = .ok (.ireturn, 1) := by decide +kernel
theorem dX0_leavesBelieved_0 : decode mX0_leavesBelieved.2.1 0 = .ok (.iconst 0, 1) := by decide +kernel
theorem dX0_leavesBelieved_1 : decode mX0_leavesBelieved.2.1 1 = .ok (.istore_n 1, 1) := by decide +kernel
theorem dX0_leavesBelieved_2 : decode mX0_leavesBelieved.2.1 2 = .ok (.iconst 0, 1) := by decide +kernel
theorem dX0_leavesBelieved_3 : decode mX0_leavesBelieved.2.1 3 = .ok (.istore_n 2, 1) := by decide +kernel
theorem dX0_leavesBelieved_4 : decode mX0_leavesBelieved.2.1 4 = .ok (.iload_n 2, 1) := by decide +kernel
theorem dX0_leavesBelieved_5 : decode mX0_leavesBelieved.2.1 5 = .ok (.aload_n 0, 1) := by decide +kernel
theorem dX0_leavesBelieved_6 : decode mX0_leavesBelieved.2.1 6 = .ok (.getfield 27, 3) := by decide +kernel
theorem dX0_leavesBelieved_9 : decode mX0_leavesBelieved.2.1 9 = .ok (.if_icmp .ge 21, 3) := by decide +kernel
theorem dX0_leavesBelieved_12 : decode mX0_leavesBelieved.2.1 12 = .ok (.iload_n 1, 1) := by decide +kernel
theorem dX0_leavesBelieved_13 : decode mX0_leavesBelieved.2.1 13 = .ok (.aload_n 0, 1) := by decide +kernel
theorem dX0_leavesBelieved_14 : decode mX0_leavesBelieved.2.1 14 = .ok (.getfield 15, 3) := by decide +kernel
theorem dX0_leavesBelieved_17 : decode mX0_leavesBelieved.2.1 17 = .ok (.iload_n 2, 1) := by decide +kernel
theorem dX0_leavesBelieved_18 : decode mX0_leavesBelieved.2.1 18 = .ok (.iaload, 1) := by decide +kernel
theorem dX0_leavesBelieved_19 : decode mX0_leavesBelieved.2.1 19 = .ok (.invokestatic 54, 3) := by decide +kernel
theorem dX0_leavesBelieved_22 : decode mX0_leavesBelieved.2.1 22 = .ok (.iadd, 1) := by decide +kernel
theorem dX0_leavesBelieved_23 : decode mX0_leavesBelieved.2.1 23 = .ok (.istore_n 1, 1) := by decide +kernel
theorem dX0_leavesBelieved_24 : decode mX0_leavesBelieved.2.1 24 = .ok (.iinc 2 1, 3) := by decide +kernel
theorem dX0_leavesBelieved_27 : decode mX0_leavesBelieved.2.1 27 = .ok (.goto (-23), 3) := by decide +kernel
theorem dX0_leavesBelieved_30 : decode mX0_leavesBelieved.2.1 30 = .ok (.iload_n 1, 1) := by decide +kernel
theorem dX0_leavesBelieved_31 : decode mX0_leavesBelieved.2.1 31 = .ok (.ireturn, 1) := by decide +kernel
theorem dX0_leavesInAll_0 : decode mX0_leavesInAll.2.1 0 = .ok (.iconst 0, 1) := by decide +kernel
theorem dX0_leavesInAll_1 : decode mX0_leavesInAll.2.1 1 = .ok (.istore_n 1, 1) := by decide +kernel
theorem dX0_leavesInAll_2 : decode mX0_leavesInAll.2.1 2 = .ok (.iconst 0, 1) := by decide +kernel
theorem dX0_leavesInAll_3 : decode mX0_leavesInAll.2.1 3 = .ok (.istore_n 2, 1) := by decide +kernel
theorem dX0_leavesInAll_4 : decode mX0_leavesInAll.2.1 4 = .ok (.iload_n 2, 1) := by decide +kernel
theorem dX0_leavesInAll_5 : decode mX0_leavesInAll.2.1 5 = .ok (.aload_n 0, 1) := by decide +kernel
theorem dX0_leavesInAll_6 : decode mX0_leavesInAll.2.1 6 = .ok (.getfield 27, 3) := by decide +kernel
theorem dX0_leavesInAll_9 : decode mX0_leavesInAll.2.1 9 = .ok (.if_icmp .ge 18, 3) := by decide +kernel
theorem dX0_leavesInAll_12 : decode mX0_leavesInAll.2.1 12 = .ok (.iload_n 1, 1) := by decide +kernel
theorem dX0_leavesInAll_13 : decode mX0_leavesInAll.2.1 13 = .ok (.aload_n 0, 1) := by decide +kernel
theorem dX0_leavesInAll_14 : decode mX0_leavesInAll.2.1 14 = .ok (.getfield 9, 3) := by decide +kernel
theorem dX0_leavesInAll_17 : decode mX0_leavesInAll.2.1 17 = .ok (.iload_n 2, 1) := by decide +kernel
theorem dX0_leavesInAll_18 : decode mX0_leavesInAll.2.1 18 = .ok (.iaload, 1) := by decide +kernel
theorem dX0_leavesInAll_19 : decode mX0_leavesInAll.2.1 19 = .ok (.iadd, 1) := by decide +kernel
theorem dX0_leavesInAll_20 : decode mX0_leavesInAll.2.1 20 = .ok (.istore_n 1, 1) := by decide +kernel
theorem dX0_leavesInAll_21 : decode mX0_leavesInAll.2.1 21 = .ok (.iinc 2 1, 3) := by decide +kernel
theorem dX0_leavesInAll_24 : decode mX0_leavesInAll.2.1 24 = .ok (.goto (-20), 3) := by decide +kernel
theorem dX0_leavesInAll_27 : decode mX0_leavesInAll.2.1 27 = .ok (.iload_n 1, 1) := by decide +kernel
theorem dX0_leavesInAll_28 : decode mX0_leavesInAll.2.1 28 = .ok (.ireturn, 1) := by decide +kernel
theorem dX0_allOf_0 : decode mX0_allOf.2.1 0 = .ok (.iconst 1, 1) := by decide +kernel
theorem dX0_allOf_1 : decode mX0_allOf.2.1 1 = .ok (.iload_n 0, 1) := by decide +kernel
theorem dX0_allOf_2 : decode mX0_allOf.2.1 2 = .ok (.ishl, 1) := by decide +kernel
theorem dX0_allOf_3 : decode mX0_allOf.2.1 3 = .ok (.iconst 1, 1) := by decide +kernel
theorem dX0_allOf_4 : decode mX0_allOf.2.1 4 = .ok (.isub, 1) := by decide +kernel
theorem dX0_allOf_5 : decode mX0_allOf.2.1 5 = .ok (.ireturn, 1) := by decide +kernel
end
section
theorem dX1_init_0 : decode mX1_init.2.1 0 = .ok (.aload_n 0, 1) := by decide +kernel
theorem dX1_init_1 : decode mX1_init.2.1 1 = .ok (.invokespecial 3, 3) := by decide +kernel
theorem dX1_init_4 : decode mX1_init.2.1 4 = .ok (.aload_n 0, 1) := by decide +kernel
theorem dX1_init_5 : decode mX1_init.2.1 5 = .ok (.iconst 0, 1) := by decide +kernel
theorem dX1_init_6 : decode mX1_init.2.1 6 = .ok (.putfield 9, 3) := by decide +kernel
theorem dX1_init_9 : decode mX1_init.2.1 9 = .ok (.aload_n 0, 1) := by decide +kernel
theorem dX1_init_10 : decode mX1_init.2.1 10 = .ok (.iconst 0, 1) := by decide +kernel
theorem dX1_init_11 : decode mX1_init.2.1 11 = .ok (.putfield 15, 3) := by decide +kernel
theorem dX1_init_14 : decode mX1_init.2.1 14 = .ok (.aload_n 0, 1) := by decide +kernel
theorem dX1_init_15 : decode mX1_init.2.1 15 = .ok (.bipush 30, 2) := by decide +kernel
theorem dX1_init_17 : decode mX1_init.2.1 17 = .ok (.newarray .int, 2) := by decide +kernel
theorem dX1_init_19 : decode mX1_init.2.1 19 = .ok (.putfield 18, 3) := by decide +kernel
theorem dX1_init_22 : decode mX1_init.2.1 22 = .ok (.aload_n 0, 1) := by decide +kernel
theorem dX1_init_23 : decode mX1_init.2.1 23 = .ok (.bipush 30, 2) := by decide +kernel
theorem dX1_init_25 : decode mX1_init.2.1 25 = .ok (.newarray .int, 2) := by decide +kernel
theorem dX1_init_27 : decode mX1_init.2.1 27 = .ok (.putfield 22, 3) := by decide +kernel
theorem dX1_init_30 : decode mX1_init.2.1 30 = .ok (.aload_n 0, 1) := by decide +kernel
theorem dX1_init_31 : decode mX1_init.2.1 31 = .ok (.bipush 30, 2) := by decide +kernel
theorem dX1_init_33 : decode mX1_init.2.1 33 = .ok (.newarray .int, 2) := by decide +kernel
theorem dX1_init_35 : decode mX1_init.2.1 35 = .ok (.putfield 25, 3) := by decide +kernel
theorem dX1_init_38 : decode mX1_init.2.1 38 = .ok (.aload_n 0, 1) := by decide +kernel
theorem dX1_init_39 : decode mX1_init.2.1 39 = .ok (.bipush 30, 2) := by decide +kernel
theorem dX1_init_41 : decode mX1_init.2.1 41 = .ok (.newarray .int, 2) := by decide +kernel
theorem dX1_init_43 : decode mX1_init.2.1 43 = .ok (.putfield 28, 3) := by decide +kernel
theorem dX1_init_46 : decode mX1_init.2.1 46 = .ok (.aload_n 0, 1) := by decide +kernel
theorem dX1_init_47 : decode mX1_init.2.1 47 = .ok (.bipush 50, 2) := by decide +kernel
theorem dX1_init_49 : decode mX1_init.2.1 49 = .ok (.newarray .int, 2) := by decide +kernel
theorem dX1_init_51 : decode mX1_init.2.1 51 = .ok (.putfield 31, 3) := by decide +kernel
theorem dX1_init_54 : decode mX1_init.2.1 54 = .ok (.aload_n 0, 1) := by decide +kernel
theorem dX1_init_55 : decode mX1_init.2.1 55 = .ok (.bipush 50, 2) := by decide +kernel
theorem dX1_init_57 : decode mX1_init.2.1 57 = .ok (.newarray .int, 2) := by decide +kernel
theorem dX1_init_59 : decode mX1_init.2.1 59 = .ok (.putfield 34, 3) := by decide +kernel
theorem dX1_init_62 : decode mX1_init.2.1 62 = .ok (.return_, 1) := by decide +kernel
theorem dX1_noteRate_0 : decode mX1_noteRate.2.1 0 = .ok (.aload_n 0, 1) := by decide +kernel
theorem dX1_noteRate_1 : decode mX1_noteRate.2.1 1 = .ok (.getfield 9, 3) := by decide +kernel
theorem dX1_noteRate_4 : decode mX1_noteRate.2.1 4 = .ok (.bipush 30, 2) := by decide +kernel
theorem dX1_noteRate_6 : decode mX1_noteRate.2.1 6 = .ok (.if_icmp .lt 6, 3) := by decide +kernel
theorem dX1_noteRate_9 : decode mX1_noteRate.2.1 9 = .ok (.bipush (-6), 2) := by decide +kernel
theorem dX1_noteRate_11 : decode mX1_noteRate.2.1 11 = .ok (.ireturn, 1) := by decide +kernel
theorem dX1_noteRate_12 : decode mX1_noteRate.2.1 12 = .ok (.aload_n 0, 1) := by decide +kernel
theorem dX1_noteRate_13 : decode mX1_noteRate.2.1 13 = .ok (.getfield 18, 3) := by decide +kernel
theorem dX1_noteRate_16 : decode mX1_noteRate.2.1 16 = .ok (.aload_n 0, 1) := by decide +kernel
theorem dX1_noteRate_17 : decode mX1_noteRate.2.1 17 = .ok (.getfield 9, 3) := by decide +kernel
theorem dX1_noteRate_20 : decode mX1_noteRate.2.1 20 = .ok (.iload_n 1, 1) := by decide +kernel
theorem dX1_noteRate_21 : decode mX1_noteRate.2.1 21 = .ok (.iastore, 1) := by decide +kernel
theorem dX1_noteRate_22 : decode mX1_noteRate.2.1 22 = .ok (.aload_n 0, 1) := by decide +kernel
theorem dX1_noteRate_23 : decode mX1_noteRate.2.1 23 = .ok (.getfield 22, 3) := by decide +kernel
theorem dX1_noteRate_26 : decode mX1_noteRate.2.1 26 = .ok (.aload_n 0, 1) := by decide +kernel
theorem dX1_noteRate_27 : decode mX1_noteRate.2.1 27 = .ok (.getfield 9, 3) := by decide +kernel
theorem dX1_noteRate_30 : decode mX1_noteRate.2.1 30 = .ok (.iload_n 2, 1) := by decide +kernel
theorem dX1_noteRate_31 : decode mX1_noteRate.2.1 31 = .ok (.iastore, 1) := by decide +kernel
theorem dX1_noteRate_32 : decode mX1_noteRate.2.1 32 = .ok (.aload_n 0, 1) := by decide +kernel
theorem dX1_noteRate_33 : decode mX1_noteRate.2.1 33 = .ok (.getfield 25, 3) := by decide +kernel
theorem dX1_noteRate_36 : decode mX1_noteRate.2.1 36 = .ok (.aload_n 0, 1) := by decide +kernel
theorem dX1_noteRate_37 : decode mX1_noteRate.2.1 37 = .ok (.getfield 9, 3) := by decide +kernel
theorem dX1_noteRate_40 : decode mX1_noteRate.2.1 40 = .ok (.iload_n 3, 1) := by decide +kernel
theorem dX1_noteRate_41 : decode mX1_noteRate.2.1 41 = .ok (.iastore, 1) := by decide +kernel
theorem dX1_noteRate_42 : decode mX1_noteRate.2.1 42 = .ok (.aload_n 0, 1) := by decide +kernel
theorem dX1_noteRate_43 : decode mX1_noteRate.2.1 43 = .ok (.getfield 28, 3) := by decide +kernel
theorem dX1_noteRate_46 : decode mX1_noteRate.2.1 46 = .ok (.aload_n 0, 1) := by decide +kernel
theorem dX1_noteRate_47 : decode mX1_noteRate.2.1 47 = .ok (.getfield 9, 3) := by decide +kernel
theorem dX1_noteRate_50 : decode mX1_noteRate.2.1 50 = .ok (.iload 4, 2) := by decide +kernel
theorem dX1_noteRate_52 : decode mX1_noteRate.2.1 52 = .ok (.iastore, 1) := by decide +kernel
theorem dX1_noteRate_53 : decode mX1_noteRate.2.1 53 = .ok (.aload_n 0, 1) := by decide +kernel
theorem dX1_noteRate_54 : decode mX1_noteRate.2.1 54 = .ok (.dup, 1) := by decide +kernel
theorem dX1_noteRate_55 : decode mX1_noteRate.2.1 55 = .ok (.getfield 9, 3) := by decide +kernel
theorem dX1_noteRate_58 : decode mX1_noteRate.2.1 58 = .ok (.iconst 1, 1) := by decide +kernel
theorem dX1_noteRate_59 : decode mX1_noteRate.2.1 59 = .ok (.iadd, 1) := by decide +kernel
theorem dX1_noteRate_60 : decode mX1_noteRate.2.1 60 = .ok (.putfield 9, 3) := by decide +kernel
theorem dX1_noteRate_63 : decode mX1_noteRate.2.1 63 = .ok (.aload_n 0, 1) := by decide +kernel
theorem dX1_noteRate_64 : decode mX1_noteRate.2.1 64 = .ok (.getfield 9, 3) := by decide +kernel
theorem dX1_noteRate_67 : decode mX1_noteRate.2.1 67 = .ok (.ireturn, 1) := by decide +kernel
theorem dX1_notePass_0 : decode mX1_notePass.2.1 0 = .ok (.aload_n 0, 1) := by decide +kernel
theorem dX1_notePass_1 : decode mX1_notePass.2.1 1 = .ok (.getfield 15, 3) := by decide +kernel
theorem dX1_notePass_4 : decode mX1_notePass.2.1 4 = .ok (.bipush 50, 2) := by decide +kernel
theorem dX1_notePass_6 : decode mX1_notePass.2.1 6 = .ok (.if_icmp .lt 4, 3) := by decide +kernel
theorem dX1_notePass_9 : decode mX1_notePass.2.1 9 = .ok (.return_, 1) := by decide +kernel
theorem dX1_notePass_10 : decode mX1_notePass.2.1 10 = .ok (.aload_n 0, 1) := by decide +kernel
theorem dX1_notePass_11 : decode mX1_notePass.2.1 11 = .ok (.getfield 31, 3) := by decide +kernel
theorem dX1_notePass_14 : decode mX1_notePass.2.1 14 = .ok (.aload_n 0, 1) := by decide +kernel
theorem dX1_notePass_15 : decode mX1_notePass.2.1 15 = .ok (.getfield 15, 3) := by decide +kernel
theorem dX1_notePass_18 : decode mX1_notePass.2.1 18 = .ok (.iload_n 1, 1) := by decide +kernel
theorem dX1_notePass_19 : decode mX1_notePass.2.1 19 = .ok (.iastore, 1) := by decide +kernel
theorem dX1_notePass_20 : decode mX1_notePass.2.1 20 = .ok (.aload_n 0, 1) := by decide +kernel
theorem dX1_notePass_21 : decode mX1_notePass.2.1 21 = .ok (.getfield 34, 3) := by decide +kernel
theorem dX1_notePass_24 : decode mX1_notePass.2.1 24 = .ok (.aload_n 0, 1) := by decide +kernel
theorem dX1_notePass_25 : decode mX1_notePass.2.1 25 = .ok (.getfield 15, 3) := by decide +kernel
theorem dX1_notePass_28 : decode mX1_notePass.2.1 28 = .ok (.iload_n 2, 1) := by decide +kernel
theorem dX1_notePass_29 : decode mX1_notePass.2.1 29 = .ok (.iastore, 1) := by decide +kernel
theorem dX1_notePass_30 : decode mX1_notePass.2.1 30 = .ok (.aload_n 0, 1) := by decide +kernel
theorem dX1_notePass_31 : decode mX1_notePass.2.1 31 = .ok (.dup, 1) := by decide +kernel
theorem dX1_notePass_32 : decode mX1_notePass.2.1 32 = .ok (.getfield 15, 3) := by decide +kernel
theorem dX1_notePass_35 : decode mX1_notePass.2.1 35 = .ok (.iconst 1, 1) := by decide +kernel
theorem dX1_notePass_36 : decode mX1_notePass.2.1 36 = .ok (.iadd, 1) := by decide +kernel
theorem dX1_notePass_37 : decode mX1_notePass.2.1 37 = .ok (.putfield 15, 3) := by decide +kernel
theorem dX1_notePass_40 : decode mX1_notePass.2.1 40 = .ok (.return_, 1) := by decide +kernel
theorem dX1_penceAt_0 : decode mX1_penceAt.2.1 0 = .ok (.iconst (-1), 1) := by decide +kernel
theorem dX1_penceAt_1 : decode mX1_penceAt.2.1 1 = .ok (.istore 4, 2) := by decide +kernel
theorem dX1_penceAt_3 : decode mX1_penceAt.2.1 3 = .ok (.iconst 0, 1) := by decide +kernel
theorem dX1_penceAt_4 : decode mX1_penceAt.2.1 4 = .ok (.istore 5, 2) := by decide +kernel
theorem dX1_penceAt_6 : decode mX1_penceAt.2.1 6 = .ok (.iconst 0, 1) := by decide +kernel
theorem dX1_penceAt_7 : decode mX1_penceAt.2.1 7 = .ok (.istore 6, 2) := by decide +kernel
theorem dX1_penceAt_9 : decode mX1_penceAt.2.1 9 = .ok (.iload 6, 2) := by decide +kernel
theorem dX1_penceAt_11 : decode mX1_penceAt.2.1 11 = .ok (.aload_n 0, 1) := by decide +kernel
theorem dX1_penceAt_12 : decode mX1_penceAt.2.1 12 = .ok (.getfield 9, 3) := by decide +kernel
theorem dX1_penceAt_15 : decode mX1_penceAt.2.1 15 = .ok (.if_icmp .ge 84, 3) := by decide +kernel
theorem dX1_penceAt_18 : decode mX1_penceAt.2.1 18 = .ok (.aload_n 0, 1) := by decide +kernel
theorem dX1_penceAt_19 : decode mX1_penceAt.2.1 19 = .ok (.getfield 18, 3) := by decide +kernel
theorem dX1_penceAt_22 : decode mX1_penceAt.2.1 22 = .ok (.iload 6, 2) := by decide +kernel
theorem dX1_penceAt_24 : decode mX1_penceAt.2.1 24 = .ok (.iaload, 1) := by decide +kernel
theorem dX1_penceAt_25 : decode mX1_penceAt.2.1 25 = .ok (.iload_n 1, 1) := by decide +kernel
theorem dX1_penceAt_26 : decode mX1_penceAt.2.1 26 = .ok (.if_icmp .ne 29, 3) := by decide +kernel
theorem dX1_penceAt_29 : decode mX1_penceAt.2.1 29 = .ok (.aload_n 0, 1) := by decide +kernel
theorem dX1_penceAt_30 : decode mX1_penceAt.2.1 30 = .ok (.getfield 28, 3) := by decide +kernel
theorem dX1_penceAt_33 : decode mX1_penceAt.2.1 33 = .ok (.iload 6, 2) := by decide +kernel
theorem dX1_penceAt_35 : decode mX1_penceAt.2.1 35 = .ok (.iaload, 1) := by decide +kernel
theorem dX1_penceAt_36 : decode mX1_penceAt.2.1 36 = .ok (.iload_n 3, 1) := by decide +kernel
theorem dX1_penceAt_37 : decode mX1_penceAt.2.1 37 = .ok (.if_icmp .gt 18, 3) := by decide +kernel
theorem dX1_penceAt_40 : decode mX1_penceAt.2.1 40 = .ok (.aload_n 0, 1) := by decide +kernel
theorem dX1_penceAt_41 : decode mX1_penceAt.2.1 41 = .ok (.getfield 22, 3) := by decide +kernel
theorem dX1_penceAt_44 : decode mX1_penceAt.2.1 44 = .ok (.iload 6, 2) := by decide +kernel
theorem dX1_penceAt_46 : decode mX1_penceAt.2.1 46 = .ok (.iaload, 1) := by decide +kernel
theorem dX1_penceAt_47 : decode mX1_penceAt.2.1 47 = .ok (.iload_n 2, 1) := by decide +kernel
theorem dX1_penceAt_48 : decode mX1_penceAt.2.1 48 = .ok (.if_icmp .gt 7, 3) := by decide +kernel
theorem dX1_penceAt_51 : decode mX1_penceAt.2.1 51 = .ok (.iconst 1, 1) := by decide +kernel
theorem dX1_penceAt_52 : decode mX1_penceAt.2.1 52 = .ok (.goto 4, 3) := by decide +kernel
theorem dX1_penceAt_55 : decode mX1_penceAt.2.1 55 = .ok (.iconst 0, 1) := by decide +kernel
theorem dX1_penceAt_56 : decode mX1_penceAt.2.1 56 = .ok (.istore 7, 2) := by decide +kernel
theorem dX1_penceAt_58 : decode mX1_penceAt.2.1 58 = .ok (.iload 7, 2) := by decide +kernel
theorem dX1_penceAt_60 : decode mX1_penceAt.2.1 60 = .ok (.ifCond .eq 33, 3) := by decide +kernel
theorem dX1_penceAt_63 : decode mX1_penceAt.2.1 63 = .ok (.aload_n 0, 1) := by decide +kernel
theorem dX1_penceAt_64 : decode mX1_penceAt.2.1 64 = .ok (.getfield 22, 3) := by decide +kernel
theorem dX1_penceAt_67 : decode mX1_penceAt.2.1 67 = .ok (.iload 6, 2) := by decide +kernel
theorem dX1_penceAt_69 : decode mX1_penceAt.2.1 69 = .ok (.iaload, 1) := by decide +kernel
theorem dX1_penceAt_70 : decode mX1_penceAt.2.1 70 = .ok (.iload 4, 2) := by decide +kernel
theorem dX1_penceAt_72 : decode mX1_penceAt.2.1 72 = .ok (.if_icmp .lt 21, 3) := by decide +kernel
theorem dX1_penceAt_75 : decode mX1_penceAt.2.1 75 = .ok (.aload_n 0, 1) := by decide +kernel
theorem dX1_penceAt_76 : decode mX1_penceAt.2.1 76 = .ok (.getfield 22, 3) := by decide +kernel
theorem dX1_penceAt_79 : decode mX1_penceAt.2.1 79 = .ok (.iload 6, 2) := by decide +kernel
theorem dX1_penceAt_81 : decode mX1_penceAt.2.1 81 = .ok (.iaload, 1) := by decide +kernel
theorem dX1_penceAt_82 : decode mX1_penceAt.2.1 82 = .ok (.istore 4, 2) := by decide +kernel
theorem dX1_penceAt_84 : decode mX1_penceAt.2.1 84 = .ok (.aload_n 0, 1) := by decide +kernel
theorem dX1_penceAt_85 : decode mX1_penceAt.2.1 85 = .ok (.getfield 25, 3) := by decide +kernel
theorem dX1_penceAt_88 : decode mX1_penceAt.2.1 88 = .ok (.iload 6, 2) := by decide +kernel
theorem dX1_penceAt_90 : decode mX1_penceAt.2.1 90 = .ok (.iaload, 1) := by decide +kernel
theorem dX1_penceAt_91 : decode mX1_penceAt.2.1 91 = .ok (.istore 5, 2) := by decide +kernel
theorem dX1_penceAt_93 : decode mX1_penceAt.2.1 93 = .ok (.iinc 6 1, 3) := by decide +kernel
theorem dX1_penceAt_96 : decode mX1_penceAt.2.1 96 = .ok (.goto (-87), 3) := by decide +kernel
theorem dX1_penceAt_99 : decode mX1_penceAt.2.1 99 = .ok (.iload 5, 2) := by decide +kernel
theorem dX1_penceAt_101 : decode mX1_penceAt.2.1 101 = .ok (.ireturn, 1) := by decide +kernel
theorem dX1_earned_0 : decode mX1_earned.2.1 0 = .ok (.iconst 0, 1) := by decide +kernel
theorem dX1_earned_1 : decode mX1_earned.2.1 1 = .ok (.istore 4, 2) := by decide +kernel
theorem dX1_earned_3 : decode mX1_earned.2.1 3 = .ok (.iconst 0, 1) := by decide +kernel
theorem dX1_earned_4 : decode mX1_earned.2.1 4 = .ok (.istore 5, 2) := by decide +kernel
theorem dX1_earned_6 : decode mX1_earned.2.1 6 = .ok (.iload 5, 2) := by decide +kernel
theorem dX1_earned_8 : decode mX1_earned.2.1 8 = .ok (.aload_n 0, 1) := by decide +kernel
theorem dX1_earned_9 : decode mX1_earned.2.1 9 = .ok (.getfield 15, 3) := by decide +kernel
theorem dX1_earned_12 : decode mX1_earned.2.1 12 = .ok (.if_icmp .ge 48, 3) := by decide +kernel
theorem dX1_earned_15 : decode mX1_earned.2.1 15 = .ok (.aload_n 0, 1) := by decide +kernel
theorem dX1_earned_16 : decode mX1_earned.2.1 16 = .ok (.getfield 34, 3) := by decide +kernel
theorem dX1_earned_19 : decode mX1_earned.2.1 19 = .ok (.iload 5, 2) := by decide +kernel
theorem dX1_earned_21 : decode mX1_earned.2.1 21 = .ok (.iaload, 1) := by decide +kernel
theorem dX1_earned_22 : decode mX1_earned.2.1 22 = .ok (.iload_n 1, 1) := by decide +kernel
theorem dX1_earned_23 : decode mX1_earned.2.1 23 = .ok (.iload_n 2, 1) := by decide +kernel
theorem dX1_earned_24 : decode mX1_earned.2.1 24 = .ok (.invokestatic 37, 3) := by decide +kernel
theorem dX1_earned_27 : decode mX1_earned.2.1 27 = .ok (.ifCond .eq 27, 3) := by decide +kernel
theorem dX1_earned_30 : decode mX1_earned.2.1 30 = .ok (.iload 4, 2) := by decide +kernel
theorem dX1_earned_32 : decode mX1_earned.2.1 32 = .ok (.aload_n 0, 1) := by decide +kernel
theorem dX1_earned_33 : decode mX1_earned.2.1 33 = .ok (.aload_n 0, 1) := by decide +kernel
theorem dX1_earned_34 : decode mX1_earned.2.1 34 = .ok (.getfield 31, 3) := by decide +kernel
theorem dX1_earned_37 : decode mX1_earned.2.1 37 = .ok (.iload 5, 2) := by decide +kernel
theorem dX1_earned_39 : decode mX1_earned.2.1 39 = .ok (.iaload, 1) := by decide +kernel
theorem dX1_earned_40 : decode mX1_earned.2.1 40 = .ok (.aload_n 0, 1) := by decide +kernel
theorem dX1_earned_41 : decode mX1_earned.2.1 41 = .ok (.getfield 34, 3) := by decide +kernel
theorem dX1_earned_44 : decode mX1_earned.2.1 44 = .ok (.iload 5, 2) := by decide +kernel
theorem dX1_earned_46 : decode mX1_earned.2.1 46 = .ok (.iaload, 1) := by decide +kernel
theorem dX1_earned_47 : decode mX1_earned.2.1 47 = .ok (.iload_n 3, 1) := by decide +kernel
theorem dX1_earned_48 : decode mX1_earned.2.1 48 = .ok (.invokevirtual 41, 3) := by decide +kernel
theorem dX1_earned_51 : decode mX1_earned.2.1 51 = .ok (.iadd, 1) := by decide +kernel
theorem dX1_earned_52 : decode mX1_earned.2.1 52 = .ok (.istore 4, 2) := by decide +kernel
theorem dX1_earned_54 : decode mX1_earned.2.1 54 = .ok (.iinc 5 1, 3) := by decide +kernel
theorem dX1_earned_57 : decode mX1_earned.2.1 57 = .ok (.goto (-51), 3) := by decide +kernel
theorem dX1_earned_60 : decode mX1_earned.2.1 60 = .ok (.iload 4, 2) := by decide +kernel
theorem dX1_earned_62 : decode mX1_earned.2.1 62 = .ok (.ireturn, 1) := by decide +kernel
end
section
theorem dX3_init_0 : decode mX3_init.2.1 0 = .ok (.aload_n 0, 1) := by decide +kernel
theorem dX3_init_1 : decode mX3_init.2.1 1 = .ok (.invokespecial 3, 3) := by decide +kernel
theorem dX3_init_4 : decode mX3_init.2.1 4 = .ok (.aload_n 0, 1) := by decide +kernel
theorem dX3_init_5 : decode mX3_init.2.1 5 = .ok (.iconst 0, 1) := by decide +kernel
theorem dX3_init_6 : decode mX3_init.2.1 6 = .ok (.putfield 9, 3) := by decide +kernel
theorem dX3_init_9 : decode mX3_init.2.1 9 = .ok (.aload_n 0, 1) := by decide +kernel
theorem dX3_init_10 : decode mX3_init.2.1 10 = .ok (.iconst 0, 1) := by decide +kernel
theorem dX3_init_11 : decode mX3_init.2.1 11 = .ok (.putfield 15, 3) := by decide +kernel
theorem dX3_init_14 : decode mX3_init.2.1 14 = .ok (.aload_n 0, 1) := by decide +kernel
theorem dX3_init_15 : decode mX3_init.2.1 15 = .ok (.iload_n 1, 1) := by decide +kernel
theorem dX3_init_16 : decode mX3_init.2.1 16 = .ok (.putfield 18, 3) := by decide +kernel
theorem dX3_init_19 : decode mX3_init.2.1 19 = .ok (.aload_n 0, 1) := by decide +kernel
theorem dX3_init_20 : decode mX3_init.2.1 20 = .ok (.iload_n 2, 1) := by decide +kernel
theorem dX3_init_21 : decode mX3_init.2.1 21 = .ok (.putfield 21, 3) := by decide +kernel
theorem dX3_init_24 : decode mX3_init.2.1 24 = .ok (.aload_n 0, 1) := by decide +kernel
theorem dX3_init_25 : decode mX3_init.2.1 25 = .ok (.iload_n 3, 1) := by decide +kernel
theorem dX3_init_26 : decode mX3_init.2.1 26 = .ok (.putfield 24, 3) := by decide +kernel
theorem dX3_init_29 : decode mX3_init.2.1 29 = .ok (.aload_n 0, 1) := by decide +kernel
theorem dX3_init_30 : decode mX3_init.2.1 30 = .ok (.iload_n 1, 1) := by decide +kernel
theorem dX3_init_31 : decode mX3_init.2.1 31 = .ok (.iload_n 2, 1) := by decide +kernel
theorem dX3_init_32 : decode mX3_init.2.1 32 = .ok (.imul, 1) := by decide +kernel
theorem dX3_init_33 : decode mX3_init.2.1 33 = .ok (.newarray .int, 2) := by decide +kernel
theorem dX3_init_35 : decode mX3_init.2.1 35 = .ok (.putfield 27, 3) := by decide +kernel
theorem dX3_init_38 : decode mX3_init.2.1 38 = .ok (.return_, 1) := by decide +kernel
theorem dX3_hasPlace_0 : decode mX3_hasPlace.2.1 0 = .ok (.iload_n 1, 1) := by decide +kernel
theorem dX3_hasPlace_1 : decode mX3_hasPlace.2.1 1 = .ok (.iconst 0, 1) := by decide +kernel
theorem dX3_hasPlace_2 : decode mX3_hasPlace.2.1 2 = .ok (.aload_n 0, 1) := by decide +kernel
theorem dX3_hasPlace_3 : decode mX3_hasPlace.2.1 3 = .ok (.getfield 18, 3) := by decide +kernel
theorem dX3_hasPlace_6 : decode mX3_hasPlace.2.1 6 = .ok (.iconst 1, 1) := by decide +kernel
theorem dX3_hasPlace_7 : decode mX3_hasPlace.2.1 7 = .ok (.isub, 1) := by decide +kernel
theorem dX3_hasPlace_8 : decode mX3_hasPlace.2.1 8 = .ok (.invokestatic 31, 3) := by decide +kernel
theorem dX3_hasPlace_11 : decode mX3_hasPlace.2.1 11 = .ok (.ifCond .eq 21, 3) := by decide +kernel
theorem dX3_hasPlace_14 : decode mX3_hasPlace.2.1 14 = .ok (.iload_n 2, 1) := by decide +kernel
theorem dX3_hasPlace_15 : decode mX3_hasPlace.2.1 15 = .ok (.iconst 0, 1) := by decide +kernel
theorem dX3_hasPlace_16 : decode mX3_hasPlace.2.1 16 = .ok (.aload_n 0, 1) := by decide +kernel
theorem dX3_hasPlace_17 : decode mX3_hasPlace.2.1 17 = .ok (.getfield 21, 3) := by decide +kernel
theorem dX3_hasPlace_20 : decode mX3_hasPlace.2.1 20 = .ok (.iconst 1, 1) := by decide +kernel
theorem dX3_hasPlace_21 : decode mX3_hasPlace.2.1 21 = .ok (.isub, 1) := by decide +kernel
theorem dX3_hasPlace_22 : decode mX3_hasPlace.2.1 22 = .ok (.invokestatic 31, 3) := by decide +kernel
theorem dX3_hasPlace_25 : decode mX3_hasPlace.2.1 25 = .ok (.ifCond .eq 7, 3) := by decide +kernel
theorem dX3_hasPlace_28 : decode mX3_hasPlace.2.1 28 = .ok (.iconst 1, 1) := by decide +kernel
theorem dX3_hasPlace_29 : decode mX3_hasPlace.2.1 29 = .ok (.goto 4, 3) := by decide +kernel
theorem dX3_hasPlace_32 : decode mX3_hasPlace.2.1 32 = .ok (.iconst 0, 1) := by decide +kernel
theorem dX3_hasPlace_33 : decode mX3_hasPlace.2.1 33 = .ok (.ireturn, 1) := by decide +kernel
theorem dX3_stateOf_0 : decode mX3_stateOf.2.1 0 = .ok (.aload_n 0, 1) := by decide +kernel
theorem dX3_stateOf_1 : decode mX3_stateOf.2.1 1 = .ok (.getfield 27, 3) := by decide +kernel
theorem dX3_stateOf_4 : decode mX3_stateOf.2.1 4 = .ok (.iload_n 2, 1) := by decide +kernel
theorem dX3_stateOf_5 : decode mX3_stateOf.2.1 5 = .ok (.aload_n 0, 1) := by decide +kernel
theorem dX3_stateOf_6 : decode mX3_stateOf.2.1 6 = .ok (.getfield 18, 3) := by decide +kernel
theorem dX3_stateOf_9 : decode mX3_stateOf.2.1 9 = .ok (.imul, 1) := by decide +kernel
theorem dX3_stateOf_10 : decode mX3_stateOf.2.1 10 = .ok (.iload_n 1, 1) := by decide +kernel
theorem dX3_stateOf_11 : decode mX3_stateOf.2.1 11 = .ok (.iadd, 1) := by decide +kernel
theorem dX3_stateOf_12 : decode mX3_stateOf.2.1 12 = .ok (.iaload, 1) := by decide +kernel
theorem dX3_stateOf_13 : decode mX3_stateOf.2.1 13 = .ok (.ireturn, 1) := by decide +kernel
theorem dX3_fill_0 : decode mX3_fill.2.1 0 = .ok (.iload_n 2, 1) := by decide +kernel
theorem dX3_fill_1 : decode mX3_fill.2.1 1 = .ok (.istore 6, 2) := by decide +kernel
theorem dX3_fill_3 : decode mX3_fill.2.1 3 = .ok (.iload 6, 2) := by decide +kernel
theorem dX3_fill_5 : decode mX3_fill.2.1 5 = .ok (.iload_n 2, 1) := by decide +kernel
theorem dX3_fill_6 : decode mX3_fill.2.1 6 = .ok (.iload 4, 2) := by decide +kernel
theorem dX3_fill_8 : decode mX3_fill.2.1 8 = .ok (.iadd, 1) := by decide +kernel
theorem dX3_fill_9 : decode mX3_fill.2.1 9 = .ok (.if_icmp .ge 43, 3) := by decide +kernel
theorem dX3_fill_12 : decode mX3_fill.2.1 12 = .ok (.iload_n 1, 1) := by decide +kernel
theorem dX3_fill_13 : decode mX3_fill.2.1 13 = .ok (.istore 7, 2) := by decide +kernel
theorem dX3_fill_15 : decode mX3_fill.2.1 15 = .ok (.iload 7, 2) := by decide +kernel
theorem dX3_fill_17 : decode mX3_fill.2.1 17 = .ok (.iload_n 1, 1) := by decide +kernel
theorem dX3_fill_18 : decode mX3_fill.2.1 18 = .ok (.iload_n 3, 1) := by decide +kernel
theorem dX3_fill_19 : decode mX3_fill.2.1 19 = .ok (.iadd, 1) := by decide +kernel
theorem dX3_fill_20 : decode mX3_fill.2.1 20 = .ok (.if_icmp .ge 26, 3) := by decide +kernel
theorem dX3_fill_23 : decode mX3_fill.2.1 23 = .ok (.aload_n 0, 1) := by decide +kernel
theorem dX3_fill_24 : decode mX3_fill.2.1 24 = .ok (.getfield 27, 3) := by decide +kernel
theorem dX3_fill_27 : decode mX3_fill.2.1 27 = .ok (.iload 6, 2) := by decide +kernel
theorem dX3_fill_29 : decode mX3_fill.2.1 29 = .ok (.aload_n 0, 1) := by decide +kernel
theorem dX3_fill_30 : decode mX3_fill.2.1 30 = .ok (.getfield 18, 3) := by decide +kernel
theorem dX3_fill_33 : decode mX3_fill.2.1 33 = .ok (.imul, 1) := by decide +kernel
theorem dX3_fill_34 : decode mX3_fill.2.1 34 = .ok (.iload 7, 2) := by decide +kernel
theorem dX3_fill_36 : decode mX3_fill.2.1 36 = .ok (.iadd, 1) := by decide +kernel
theorem dX3_fill_37 : decode mX3_fill.2.1 37 = .ok (.iload 5, 2) := by decide +kernel
theorem dX3_fill_39 : decode mX3_fill.2.1 39 = .ok (.iastore, 1) := by decide +kernel
theorem dX3_fill_40 : decode mX3_fill.2.1 40 = .ok (.iinc 7 1, 3) := by decide +kernel
theorem dX3_fill_43 : decode mX3_fill.2.1 43 = .ok (.goto (-28), 3) := by decide +kernel
theorem dX3_fill_46 : decode mX3_fill.2.1 46 = .ok (.iinc 6 1, 3) := by decide +kernel
theorem dX3_fill_49 : decode mX3_fill.2.1 49 = .ok (.goto (-46), 3) := by decide +kernel
theorem dX3_fill_52 : decode mX3_fill.2.1 52 = .ok (.return_, 1) := by decide +kernel
theorem dX3_cutCover_0 : decode mX3_cutCover.2.1 0 = .ok (.iconst 0, 1) := by decide +kernel
theorem dX3_cutCover_1 : decode mX3_cutCover.2.1 1 = .ok (.istore_n 3, 1) := by decide +kernel
theorem dX3_cutCover_2 : decode mX3_cutCover.2.1 2 = .ok (.iload_n 3, 1) := by decide +kernel
theorem dX3_cutCover_3 : decode mX3_cutCover.2.1 3 = .ok (.aload_n 0, 1) := by decide +kernel
theorem dX3_cutCover_4 : decode mX3_cutCover.2.1 4 = .ok (.getfield 21, 3) := by decide +kernel
theorem dX3_cutCover_7 : decode mX3_cutCover.2.1 7 = .ok (.if_icmp .ge 71, 3) := by decide +kernel
theorem dX3_cutCover_10 : decode mX3_cutCover.2.1 10 = .ok (.iconst 0, 1) := by decide +kernel
theorem dX3_cutCover_11 : decode mX3_cutCover.2.1 11 = .ok (.istore 4, 2) := by decide +kernel
theorem dX3_cutCover_13 : decode mX3_cutCover.2.1 13 = .ok (.iload 4, 2) := by decide +kernel
theorem dX3_cutCover_15 : decode mX3_cutCover.2.1 15 = .ok (.aload_n 0, 1) := by decide +kernel
theorem dX3_cutCover_16 : decode mX3_cutCover.2.1 16 = .ok (.getfield 18, 3) := by decide +kernel
theorem dX3_cutCover_19 : decode mX3_cutCover.2.1 19 = .ok (.if_icmp .ge 53, 3) := by decide +kernel
theorem dX3_cutCover_22 : decode mX3_cutCover.2.1 22 = .ok (.aload_n 0, 1) := by decide +kernel
theorem dX3_cutCover_23 : decode mX3_cutCover.2.1 23 = .ok (.iload 4, 2) := by decide +kernel
theorem dX3_cutCover_25 : decode mX3_cutCover.2.1 25 = .ok (.iload_n 3, 1) := by decide +kernel
theorem dX3_cutCover_26 : decode mX3_cutCover.2.1 26 = .ok (.iload_n 1, 1) := by decide +kernel
theorem dX3_cutCover_27 : decode mX3_cutCover.2.1 27 = .ok (.iload_n 2, 1) := by decide +kernel
theorem dX3_cutCover_28 : decode mX3_cutCover.2.1 28 = .ok (.invokevirtual 35, 3) := by decide +kernel
theorem dX3_cutCover_31 : decode mX3_cutCover.2.1 31 = .ok (.ifCond .eq 11, 3) := by decide +kernel
theorem dX3_cutCover_34 : decode mX3_cutCover.2.1 34 = .ok (.iload 4, 2) := by decide +kernel
theorem dX3_cutCover_36 : decode mX3_cutCover.2.1 36 = .ok (.bipush 100, 2) := by decide +kernel
theorem dX3_cutCover_38 : decode mX3_cutCover.2.1 38 = .ok (.iload_n 3, 1) := by decide +kernel
theorem dX3_cutCover_39 : decode mX3_cutCover.2.1 39 = .ok (.imul, 1) := by decide +kernel
theorem dX3_cutCover_40 : decode mX3_cutCover.2.1 40 = .ok (.iadd, 1) := by decide +kernel
theorem dX3_cutCover_41 : decode mX3_cutCover.2.1 41 = .ok (.ireturn, 1) := by decide +kernel
theorem dX3_cutCover_42 : decode mX3_cutCover.2.1 42 = .ok (.aload_n 0, 1) := by decide +kernel
theorem dX3_cutCover_43 : decode mX3_cutCover.2.1 43 = .ok (.iload 4, 2) := by decide +kernel
theorem dX3_cutCover_45 : decode mX3_cutCover.2.1 45 = .ok (.iload_n 3, 1) := by decide +kernel
theorem dX3_cutCover_46 : decode mX3_cutCover.2.1 46 = .ok (.iload_n 2, 1) := by decide +kernel
theorem dX3_cutCover_47 : decode mX3_cutCover.2.1 47 = .ok (.iload_n 1, 1) := by decide +kernel
theorem dX3_cutCover_48 : decode mX3_cutCover.2.1 48 = .ok (.invokevirtual 35, 3) := by decide +kernel
theorem dX3_cutCover_51 : decode mX3_cutCover.2.1 51 = .ok (.ifCond .eq 15, 3) := by decide +kernel
theorem dX3_cutCover_54 : decode mX3_cutCover.2.1 54 = .ok (.iload 4, 2) := by decide +kernel
theorem dX3_cutCover_56 : decode mX3_cutCover.2.1 56 = .ok (.bipush 100, 2) := by decide +kernel
theorem dX3_cutCover_58 : decode mX3_cutCover.2.1 58 = .ok (.iload_n 3, 1) := by decide +kernel
theorem dX3_cutCover_59 : decode mX3_cutCover.2.1 59 = .ok (.imul, 1) := by decide +kernel
theorem dX3_cutCover_60 : decode mX3_cutCover.2.1 60 = .ok (.iadd, 1) := by decide +kernel
theorem dX3_cutCover_61 : decode mX3_cutCover.2.1 61 = .ok (.sipush 10000, 3) := by decide +kernel
theorem dX3_cutCover_64 : decode mX3_cutCover.2.1 64 = .ok (.iadd, 1) := by decide +kernel
theorem dX3_cutCover_65 : decode mX3_cutCover.2.1 65 = .ok (.ireturn, 1) := by decide +kernel
theorem dX3_cutCover_66 : decode mX3_cutCover.2.1 66 = .ok (.iinc 4 1, 3) := by decide +kernel
theorem dX3_cutCover_69 : decode mX3_cutCover.2.1 69 = .ok (.goto (-56), 3) := by decide +kernel
theorem dX3_cutCover_72 : decode mX3_cutCover.2.1 72 = .ok (.iinc 3 1, 3) := by decide +kernel
theorem dX3_cutCover_75 : decode mX3_cutCover.2.1 75 = .ok (.goto (-73), 3) := by decide +kernel
theorem dX3_cutCover_78 : decode mX3_cutCover.2.1 78 = .ok (.iconst (-1), 1) := by decide +kernel
theorem dX3_cutCover_79 : decode mX3_cutCover.2.1 79 = .ok (.ireturn, 1) := by decide +kernel
theorem dX3_cutAlike_0 : decode mX3_cutAlike.2.1 0 = .ok (.aload_n 0, 1) := by decide +kernel
theorem dX3_cutAlike_1 : decode mX3_cutAlike.2.1 1 = .ok (.aload_n 0, 1) := by decide +kernel
theorem dX3_cutAlike_2 : decode mX3_cutAlike.2.1 2 = .ok (.getfield 9, 3) := by decide +kernel
theorem dX3_cutAlike_5 : decode mX3_cutAlike.2.1 5 = .ok (.putfield 15, 3) := by decide +kernel
theorem dX3_cutAlike_8 : decode mX3_cutAlike.2.1 8 = .ok (.iconst 0, 1) := by decide +kernel
theorem dX3_cutAlike_9 : decode mX3_cutAlike.2.1 9 = .ok (.istore 4, 2) := by decide +kernel
theorem dX3_cutAlike_11 : decode mX3_cutAlike.2.1 11 = .ok (.iload 4, 2) := by decide +kernel
theorem dX3_cutAlike_13 : decode mX3_cutAlike.2.1 13 = .ok (.iload_n 3, 1) := by decide +kernel
theorem dX3_cutAlike_14 : decode mX3_cutAlike.2.1 14 = .ok (.if_icmp .ge 22, 3) := by decide +kernel
theorem dX3_cutAlike_17 : decode mX3_cutAlike.2.1 17 = .ok (.aload_n 0, 1) := by decide +kernel
theorem dX3_cutAlike_18 : decode mX3_cutAlike.2.1 18 = .ok (.iload_n 1, 1) := by decide +kernel
theorem dX3_cutAlike_19 : decode mX3_cutAlike.2.1 19 = .ok (.iload_n 2, 1) := by decide +kernel
theorem dX3_cutAlike_20 : decode mX3_cutAlike.2.1 20 = .ok (.invokevirtual 39, 3) := by decide +kernel
theorem dX3_cutAlike_23 : decode mX3_cutAlike.2.1 23 = .ok (.iconst (-1), 1) := by decide +kernel
theorem dX3_cutAlike_24 : decode mX3_cutAlike.2.1 24 = .ok (.if_icmp .ne 6, 3) := by decide +kernel
theorem dX3_cutAlike_27 : decode mX3_cutAlike.2.1 27 = .ok (.iload 4, 2) := by decide +kernel
theorem dX3_cutAlike_29 : decode mX3_cutAlike.2.1 29 = .ok (.ireturn, 1) := by decide +kernel
theorem dX3_cutAlike_30 : decode mX3_cutAlike.2.1 30 = .ok (.iinc 4 1, 3) := by decide +kernel
theorem dX3_cutAlike_33 : decode mX3_cutAlike.2.1 33 = .ok (.goto (-22), 3) := by decide +kernel
theorem dX3_cutAlike_36 : decode mX3_cutAlike.2.1 36 = .ok (.iload_n 3, 1) := by decide +kernel
theorem dX3_cutAlike_37 : decode mX3_cutAlike.2.1 37 = .ok (.ireturn, 1) := by decide +kernel
theorem dX3_takeBackAlike_0 : decode mX3_takeBackAlike.2.1 0 = .ok (.iconst 0, 1) := by decide +kernel
theorem dX3_takeBackAlike_1 : decode mX3_takeBackAlike.2.1 1 = .ok (.istore_n 1, 1) := by decide +kernel
theorem dX3_takeBackAlike_2 : decode mX3_takeBackAlike.2.1 2 = .ok (.iload_n 1, 1) := by decide +kernel
theorem dX3_takeBackAlike_3 : decode mX3_takeBackAlike.2.1 3 = .ok (.aload_n 0, 1) := by decide +kernel
theorem dX3_takeBackAlike_4 : decode mX3_takeBackAlike.2.1 4 = .ok (.getfield 27, 3) := by decide +kernel
theorem dX3_takeBackAlike_7 : decode mX3_takeBackAlike.2.1 7 = .ok (.arraylength, 1) := by decide +kernel
theorem dX3_takeBackAlike_8 : decode mX3_takeBackAlike.2.1 8 = .ok (.if_icmp .ge 31, 3) := by decide +kernel
theorem dX3_takeBackAlike_11 : decode mX3_takeBackAlike.2.1 11 = .ok (.aload_n 0, 1) := by decide +kernel
theorem dX3_takeBackAlike_12 : decode mX3_takeBackAlike.2.1 12 = .ok (.getfield 27, 3) := by decide +kernel
theorem dX3_takeBackAlike_15 : decode mX3_takeBackAlike.2.1 15 = .ok (.iload_n 1, 1) := by decide +kernel
theorem dX3_takeBackAlike_16 : decode mX3_takeBackAlike.2.1 16 = .ok (.iaload, 1) := by decide +kernel
theorem dX3_takeBackAlike_17 : decode mX3_takeBackAlike.2.1 17 = .ok (.iconst 2, 1) := by decide +kernel
theorem dX3_takeBackAlike_18 : decode mX3_takeBackAlike.2.1 18 = .ok (.aload_n 0, 1) := by decide +kernel
theorem dX3_takeBackAlike_19 : decode mX3_takeBackAlike.2.1 19 = .ok (.getfield 15, 3) := by decide +kernel
theorem dX3_takeBackAlike_22 : decode mX3_takeBackAlike.2.1 22 = .ok (.iadd, 1) := by decide +kernel
theorem dX3_takeBackAlike_23 : decode mX3_takeBackAlike.2.1 23 = .ok (.if_icmp .lt 10, 3) := by decide +kernel
theorem dX3_takeBackAlike_26 : decode mX3_takeBackAlike.2.1 26 = .ok (.aload_n 0, 1) := by decide +kernel
theorem dX3_takeBackAlike_27 : decode mX3_takeBackAlike.2.1 27 = .ok (.getfield 27, 3) := by decide +kernel
theorem dX3_takeBackAlike_30 : decode mX3_takeBackAlike.2.1 30 = .ok (.iload_n 1, 1) := by decide +kernel
theorem dX3_takeBackAlike_31 : decode mX3_takeBackAlike.2.1 31 = .ok (.iconst 0, 1) := by decide +kernel
theorem dX3_takeBackAlike_32 : decode mX3_takeBackAlike.2.1 32 = .ok (.iastore, 1) := by decide +kernel
theorem dX3_takeBackAlike_33 : decode mX3_takeBackAlike.2.1 33 = .ok (.iinc 1 1, 3) := by decide +kernel
theorem dX3_takeBackAlike_36 : decode mX3_takeBackAlike.2.1 36 = .ok (.goto (-34), 3) := by decide +kernel
theorem dX3_takeBackAlike_39 : decode mX3_takeBackAlike.2.1 39 = .ok (.aload_n 0, 1) := by decide +kernel
theorem dX3_takeBackAlike_40 : decode mX3_takeBackAlike.2.1 40 = .ok (.aload_n 0, 1) := by decide +kernel
theorem dX3_takeBackAlike_41 : decode mX3_takeBackAlike.2.1 41 = .ok (.getfield 15, 3) := by decide +kernel
theorem dX3_takeBackAlike_44 : decode mX3_takeBackAlike.2.1 44 = .ok (.putfield 9, 3) := by decide +kernel
theorem dX3_takeBackAlike_47 : decode mX3_takeBackAlike.2.1 47 = .ok (.return_, 1) := by decide +kernel
theorem dX3_cutHere_0 : decode mX3_cutHere.2.1 0 = .ok (.aload_n 0, 1) := by decide +kernel
theorem dX3_cutHere_1 : decode mX3_cutHere.2.1 1 = .ok (.iload_n 1, 1) := by decide +kernel
theorem dX3_cutHere_2 : decode mX3_cutHere.2.1 2 = .ok (.iload_n 2, 1) := by decide +kernel
theorem dX3_cutHere_3 : decode mX3_cutHere.2.1 3 = .ok (.iload_n 3, 1) := by decide +kernel
theorem dX3_cutHere_4 : decode mX3_cutHere.2.1 4 = .ok (.iload 4, 2) := by decide +kernel
theorem dX3_cutHere_6 : decode mX3_cutHere.2.1 6 = .ok (.invokevirtual 43, 3) := by decide +kernel
theorem dX3_cutHere_9 : decode mX3_cutHere.2.1 9 = .ok (.ifCond .ne 5, 3) := by decide +kernel
theorem dX3_cutHere_12 : decode mX3_cutHere.2.1 12 = .ok (.iconst 0, 1) := by decide +kernel
theorem dX3_cutHere_13 : decode mX3_cutHere.2.1 13 = .ok (.ireturn, 1) := by decide +kernel
theorem dX3_cutHere_14 : decode mX3_cutHere.2.1 14 = .ok (.aload_n 0, 1) := by decide +kernel
theorem dX3_cutHere_15 : decode mX3_cutHere.2.1 15 = .ok (.iload_n 1, 1) := by decide +kernel
theorem dX3_cutHere_16 : decode mX3_cutHere.2.1 16 = .ok (.iload_n 2, 1) := by decide +kernel
theorem dX3_cutHere_17 : decode mX3_cutHere.2.1 17 = .ok (.iload_n 3, 1) := by decide +kernel
theorem dX3_cutHere_18 : decode mX3_cutHere.2.1 18 = .ok (.iload 4, 2) := by decide +kernel
theorem dX3_cutHere_20 : decode mX3_cutHere.2.1 20 = .ok (.iconst 2, 1) := by decide +kernel
theorem dX3_cutHere_21 : decode mX3_cutHere.2.1 21 = .ok (.aload_n 0, 1) := by decide +kernel
theorem dX3_cutHere_22 : decode mX3_cutHere.2.1 22 = .ok (.getfield 9, 3) := by decide +kernel
theorem dX3_cutHere_25 : decode mX3_cutHere.2.1 25 = .ok (.iadd, 1) := by decide +kernel
theorem dX3_cutHere_26 : decode mX3_cutHere.2.1 26 = .ok (.invokevirtual 46, 3) := by decide +kernel
theorem dX3_cutHere_29 : decode mX3_cutHere.2.1 29 = .ok (.aload_n 0, 1) := by decide +kernel
theorem dX3_cutHere_30 : decode mX3_cutHere.2.1 30 = .ok (.dup, 1) := by decide +kernel
theorem dX3_cutHere_31 : decode mX3_cutHere.2.1 31 = .ok (.getfield 9, 3) := by decide +kernel
theorem dX3_cutHere_34 : decode mX3_cutHere.2.1 34 = .ok (.iconst 1, 1) := by decide +kernel
theorem dX3_cutHere_35 : decode mX3_cutHere.2.1 35 = .ok (.iadd, 1) := by decide +kernel
theorem dX3_cutHere_36 : decode mX3_cutHere.2.1 36 = .ok (.putfield 9, 3) := by decide +kernel
theorem dX3_cutHere_39 : decode mX3_cutHere.2.1 39 = .ok (.iconst 1, 1) := by decide +kernel
theorem dX3_cutHere_40 : decode mX3_cutHere.2.1 40 = .ok (.ireturn, 1) := by decide +kernel
theorem dX3_isFree_0 : decode mX3_isFree.2.1 0 = .ok (.iload_n 1, 1) := by decide +kernel
theorem dX3_isFree_1 : decode mX3_isFree.2.1 1 = .ok (.iload_n 3, 1) := by decide +kernel
theorem dX3_isFree_2 : decode mX3_isFree.2.1 2 = .ok (.iadd, 1) := by decide +kernel
theorem dX3_isFree_3 : decode mX3_isFree.2.1 3 = .ok (.aload_n 0, 1) := by decide +kernel
theorem dX3_isFree_4 : decode mX3_isFree.2.1 4 = .ok (.getfield 18, 3) := by decide +kernel
theorem dX3_isFree_7 : decode mX3_isFree.2.1 7 = .ok (.if_icmp .gt 14, 3) := by decide +kernel
theorem dX3_isFree_10 : decode mX3_isFree.2.1 10 = .ok (.iload_n 2, 1) := by decide +kernel
theorem dX3_isFree_11 : decode mX3_isFree.2.1 11 = .ok (.iload 4, 2) := by decide +kernel
theorem dX3_isFree_13 : decode mX3_isFree.2.1 13 = .ok (.iadd, 1) := by decide +kernel
theorem dX3_isFree_14 : decode mX3_isFree.2.1 14 = .ok (.aload_n 0, 1) := by decide +kernel
theorem dX3_isFree_15 : decode mX3_isFree.2.1 15 = .ok (.getfield 21, 3) := by decide +kernel
theorem dX3_isFree_18 : decode mX3_isFree.2.1 18 = .ok (.if_icmp .le 5, 3) := by decide +kernel
theorem dX3_isFree_21 : decode mX3_isFree.2.1 21 = .ok (.iconst 0, 1) := by decide +kernel
theorem dX3_isFree_22 : decode mX3_isFree.2.1 22 = .ok (.ireturn, 1) := by decide +kernel
theorem dX3_isFree_23 : decode mX3_isFree.2.1 23 = .ok (.iload_n 2, 1) := by decide +kernel
theorem dX3_isFree_24 : decode mX3_isFree.2.1 24 = .ok (.istore 5, 2) := by decide +kernel
theorem dX3_isFree_26 : decode mX3_isFree.2.1 26 = .ok (.iload 5, 2) := by decide +kernel
theorem dX3_isFree_28 : decode mX3_isFree.2.1 28 = .ok (.iload_n 2, 1) := by decide +kernel
theorem dX3_isFree_29 : decode mX3_isFree.2.1 29 = .ok (.iload 4, 2) := by decide +kernel
theorem dX3_isFree_31 : decode mX3_isFree.2.1 31 = .ok (.iadd, 1) := by decide +kernel
theorem dX3_isFree_32 : decode mX3_isFree.2.1 32 = .ok (.if_icmp .ge 46, 3) := by decide +kernel
theorem dX3_isFree_35 : decode mX3_isFree.2.1 35 = .ok (.iload_n 1, 1) := by decide +kernel
theorem dX3_isFree_36 : decode mX3_isFree.2.1 36 = .ok (.istore 6, 2) := by decide +kernel
theorem dX3_isFree_38 : decode mX3_isFree.2.1 38 = .ok (.iload 6, 2) := by decide +kernel
theorem dX3_isFree_40 : decode mX3_isFree.2.1 40 = .ok (.iload_n 1, 1) := by decide +kernel
theorem dX3_isFree_41 : decode mX3_isFree.2.1 41 = .ok (.iload_n 3, 1) := by decide +kernel
theorem dX3_isFree_42 : decode mX3_isFree.2.1 42 = .ok (.iadd, 1) := by decide +kernel
theorem dX3_isFree_43 : decode mX3_isFree.2.1 43 = .ok (.if_icmp .ge 29, 3) := by decide +kernel
theorem dX3_isFree_46 : decode mX3_isFree.2.1 46 = .ok (.aload_n 0, 1) := by decide +kernel
theorem dX3_isFree_47 : decode mX3_isFree.2.1 47 = .ok (.getfield 27, 3) := by decide +kernel
theorem dX3_isFree_50 : decode mX3_isFree.2.1 50 = .ok (.iload 5, 2) := by decide +kernel
theorem dX3_isFree_52 : decode mX3_isFree.2.1 52 = .ok (.aload_n 0, 1) := by decide +kernel
theorem dX3_isFree_53 : decode mX3_isFree.2.1 53 = .ok (.getfield 18, 3) := by decide +kernel
theorem dX3_isFree_56 : decode mX3_isFree.2.1 56 = .ok (.imul, 1) := by decide +kernel
theorem dX3_isFree_57 : decode mX3_isFree.2.1 57 = .ok (.iload 6, 2) := by decide +kernel
theorem dX3_isFree_59 : decode mX3_isFree.2.1 59 = .ok (.iadd, 1) := by decide +kernel
theorem dX3_isFree_60 : decode mX3_isFree.2.1 60 = .ok (.iaload, 1) := by decide +kernel
theorem dX3_isFree_61 : decode mX3_isFree.2.1 61 = .ok (.ifCond .eq 5, 3) := by decide +kernel
theorem dX3_isFree_64 : decode mX3_isFree.2.1 64 = .ok (.iconst 0, 1) := by decide +kernel
theorem dX3_isFree_65 : decode mX3_isFree.2.1 65 = .ok (.ireturn, 1) := by decide +kernel
theorem dX3_isFree_66 : decode mX3_isFree.2.1 66 = .ok (.iinc 6 1, 3) := by decide +kernel
theorem dX3_isFree_69 : decode mX3_isFree.2.1 69 = .ok (.goto (-31), 3) := by decide +kernel
theorem dX3_isFree_72 : decode mX3_isFree.2.1 72 = .ok (.iinc 5 1, 3) := by decide +kernel
theorem dX3_isFree_75 : decode mX3_isFree.2.1 75 = .ok (.goto (-49), 3) := by decide +kernel
theorem dX3_isFree_78 : decode mX3_isFree.2.1 78 = .ok (.iconst 1, 1) := by decide +kernel
theorem dX3_isFree_79 : decode mX3_isFree.2.1 79 = .ok (.ireturn, 1) := by decide +kernel
end
section
theorem dX5_init_0 : decode mX5_init.2.1 0 = .ok (.aload_n 0, 1) := by decide +kernel
theorem dX5_init_1 : decode mX5_init.2.1 1 = .ok (.invokespecial 3, 3) := by decide +kernel
theorem dX5_init_4 : decode mX5_init.2.1 4 = .ok (.aload_n 0, 1) := by decide +kernel
theorem dX5_init_5 : decode mX5_init.2.1 5 = .ok (.bipush 10, 2) := by decide +kernel
theorem dX5_init_7 : decode mX5_init.2.1 7 = .ok (.anewarray 9, 3) := by decide +kernel
theorem dX5_init_10 : decode mX5_init.2.1 10 = .ok (.putfield 11, 3) := by decide +kernel
theorem dX5_init_13 : decode mX5_init.2.1 13 = .ok (.aload_n 0, 1) := by decide +kernel
theorem dX5_init_14 : decode mX5_init.2.1 14 = .ok (.new 15, 3) := by decide +kernel
theorem dX5_init_17 : decode mX5_init.2.1 17 = .ok (.dup, 1) := by decide +kernel
theorem dX5_init_18 : decode mX5_init.2.1 18 = .ok (.invokespecial 17, 3) := by decide +kernel
theorem dX5_init_21 : decode mX5_init.2.1 21 = .ok (.putfield 18, 3) := by decide +kernel
theorem dX5_init_24 : decode mX5_init.2.1 24 = .ok (.aload_n 0, 1) := by decide +kernel
theorem dX5_init_25 : decode mX5_init.2.1 25 = .ok (.new 22, 3) := by decide +kernel
theorem dX5_init_28 : decode mX5_init.2.1 28 = .ok (.dup, 1) := by decide +kernel
theorem dX5_init_29 : decode mX5_init.2.1 29 = .ok (.invokespecial 24, 3) := by decide +kernel
theorem dX5_init_32 : decode mX5_init.2.1 32 = .ok (.putfield 25, 3) := by decide +kernel
theorem dX5_init_35 : decode mX5_init.2.1 35 = .ok (.aload_n 0, 1) := by decide +kernel
theorem dX5_init_36 : decode mX5_init.2.1 36 = .ok (.bipush 6, 2) := by decide +kernel
theorem dX5_init_38 : decode mX5_init.2.1 38 = .ok (.anewarray 29, 3) := by decide +kernel
theorem dX5_init_41 : decode mX5_init.2.1 41 = .ok (.putfield 31, 3) := by decide +kernel
theorem dX5_init_44 : decode mX5_init.2.1 44 = .ok (.aload_n 0, 1) := by decide +kernel
theorem dX5_init_45 : decode mX5_init.2.1 45 = .ok (.new 35, 3) := by decide +kernel
theorem dX5_init_48 : decode mX5_init.2.1 48 = .ok (.dup, 1) := by decide +kernel
theorem dX5_init_49 : decode mX5_init.2.1 49 = .ok (.invokespecial 37, 3) := by decide +kernel
theorem dX5_init_52 : decode mX5_init.2.1 52 = .ok (.putfield 38, 3) := by decide +kernel
theorem dX5_init_55 : decode mX5_init.2.1 55 = .ok (.aload_n 0, 1) := by decide +kernel
theorem dX5_init_56 : decode mX5_init.2.1 56 = .ok (.iconst 0, 1) := by decide +kernel
theorem dX5_init_57 : decode mX5_init.2.1 57 = .ok (.putfield 42, 3) := by decide +kernel
theorem dX5_init_60 : decode mX5_init.2.1 60 = .ok (.aload_n 0, 1) := by decide +kernel
theorem dX5_init_61 : decode mX5_init.2.1 61 = .ok (.iconst 0, 1) := by decide +kernel
theorem dX5_init_62 : decode mX5_init.2.1 62 = .ok (.putfield 46, 3) := by decide +kernel
theorem dX5_init_65 : decode mX5_init.2.1 65 = .ok (.aload_n 0, 1) := by decide +kernel
theorem dX5_init_66 : decode mX5_init.2.1 66 = .ok (.iconst 0, 1) := by decide +kernel
theorem dX5_init_67 : decode mX5_init.2.1 67 = .ok (.putfield 49, 3) := by decide +kernel
theorem dX5_init_70 : decode mX5_init.2.1 70 = .ok (.return_, 1) := by decide +kernel
theorem dX5_book_0 : decode mX5_book.2.1 0 = .ok (.aload_n 0, 1) := by decide +kernel
theorem dX5_book_1 : decode mX5_book.2.1 1 = .ok (.getfield 42, 3) := by decide +kernel
theorem dX5_book_4 : decode mX5_book.2.1 4 = .ok (.bipush 10, 2) := by decide +kernel
theorem dX5_book_6 : decode mX5_book.2.1 6 = .ok (.if_icmp .lt 6, 3) := by decide +kernel
theorem dX5_book_9 : decode mX5_book.2.1 9 = .ok (.bipush (-6), 2) := by decide +kernel
theorem dX5_book_11 : decode mX5_book.2.1 11 = .ok (.ireturn, 1) := by decide +kernel
theorem dX5_book_12 : decode mX5_book.2.1 12 = .ok (.aload_n 0, 1) := by decide +kernel
theorem dX5_book_13 : decode mX5_book.2.1 13 = .ok (.getfield 11, 3) := by decide +kernel
theorem dX5_book_16 : decode mX5_book.2.1 16 = .ok (.aload_n 0, 1) := by decide +kernel
theorem dX5_book_17 : decode mX5_book.2.1 17 = .ok (.getfield 42, 3) := by decide +kernel
theorem dX5_book_20 : decode mX5_book.2.1 20 = .ok (.new 9, 3) := by decide +kernel
theorem dX5_book_23 : decode mX5_book.2.1 23 = .ok (.dup, 1) := by decide +kernel
theorem dX5_book_24 : decode mX5_book.2.1 24 = .ok (.invokespecial 52, 3) := by decide +kernel
theorem dX5_book_27 : decode mX5_book.2.1 27 = .ok (.aastore, 1) := by decide +kernel
theorem dX5_book_28 : decode mX5_book.2.1 28 = .ok (.aload_n 0, 1) := by decide +kernel
theorem dX5_book_29 : decode mX5_book.2.1 29 = .ok (.dup, 1) := by decide +kernel
theorem dX5_book_30 : decode mX5_book.2.1 30 = .ok (.getfield 42, 3) := by decide +kernel
theorem dX5_book_33 : decode mX5_book.2.1 33 = .ok (.iconst 1, 1) := by decide +kernel
theorem dX5_book_34 : decode mX5_book.2.1 34 = .ok (.iadd, 1) := by decide +kernel
theorem dX5_book_35 : decode mX5_book.2.1 35 = .ok (.putfield 42, 3) := by decide +kernel
theorem dX5_book_38 : decode mX5_book.2.1 38 = .ok (.aload_n 0, 1) := by decide +kernel
theorem dX5_book_39 : decode mX5_book.2.1 39 = .ok (.getfield 42, 3) := by decide +kernel
theorem dX5_book_42 : decode mX5_book.2.1 42 = .ok (.iconst 1, 1) := by decide +kernel
theorem dX5_book_43 : decode mX5_book.2.1 43 = .ok (.isub, 1) := by decide +kernel
theorem dX5_book_44 : decode mX5_book.2.1 44 = .ok (.ireturn, 1) := by decide +kernel
theorem dX5_gather_0 : decode mX5_gather.2.1 0 = .ok (.aload_n 0, 1) := by decide +kernel
theorem dX5_gather_1 : decode mX5_gather.2.1 1 = .ok (.iload_n 1, 1) := by decide +kernel
theorem dX5_gather_2 : decode mX5_gather.2.1 2 = .ok (.invokevirtual 53, 3) := by decide +kernel
theorem dX5_gather_5 : decode mX5_gather.2.1 5 = .ok (.astore_n 3, 1) := by decide +kernel
theorem dX5_gather_6 : decode mX5_gather.2.1 6 = .ok (.aload_n 3, 1) := by decide +kernel
theorem dX5_gather_7 : decode mX5_gather.2.1 7 = .ok (.ifnonnull 6, 3) := by decide +kernel
theorem dX5_gather_10 : decode mX5_gather.2.1 10 = .ok (.bipush (-2), 2) := by decide +kernel
theorem dX5_gather_12 : decode mX5_gather.2.1 12 = .ok (.ireturn, 1) := by decide +kernel
theorem dX5_gather_13 : decode mX5_gather.2.1 13 = .ok (.iload_n 2, 1) := by decide +kernel
theorem dX5_gather_14 : decode mX5_gather.2.1 14 = .ok (.iconst 1, 1) := by decide +kernel
theorem dX5_gather_15 : decode mX5_gather.2.1 15 = .ok (.bipush 16, 2) := by decide +kernel
theorem dX5_gather_17 : decode mX5_gather.2.1 17 = .ok (.invokestatic 57, 3) := by decide +kernel
theorem dX5_gather_20 : decode mX5_gather.2.1 20 = .ok (.ifCond .ne 6, 3) := by decide +kernel
theorem dX5_gather_23 : decode mX5_gather.2.1 23 = .ok (.bipush (-3), 2) := by decide +kernel
theorem dX5_gather_25 : decode mX5_gather.2.1 25 = .ok (.ireturn, 1) := by decide +kernel
theorem dX5_gather_26 : decode mX5_gather.2.1 26 = .ok (.aload_n 3, 1) := by decide +kernel
theorem dX5_gather_27 : decode mX5_gather.2.1 27 = .ok (.getfield 61, 3) := by decide +kernel
theorem dX5_gather_30 : decode mX5_gather.2.1 30 = .ok (.ifCond .eq 6, 3) := by decide +kernel
theorem dX5_gather_33 : decode mX5_gather.2.1 33 = .ok (.bipush (-4), 2) := by decide +kernel
theorem dX5_gather_35 : decode mX5_gather.2.1 35 = .ok (.ireturn, 1) := by decide +kernel
theorem dX5_gather_36 : decode mX5_gather.2.1 36 = .ok (.aload_n 3, 1) := by decide +kernel
theorem dX5_gather_37 : decode mX5_gather.2.1 37 = .ok (.iload_n 2, 1) := by decide +kernel
theorem dX5_gather_38 : decode mX5_gather.2.1 38 = .ok (.invokevirtual 64, 3) := by decide +kernel
theorem dX5_gather_41 : decode mX5_gather.2.1 41 = .ok (.ireturn, 1) := by decide +kernel
theorem dX5_look_0 : decode mX5_look.2.1 0 = .ok (.aload_n 0, 1) := by decide +kernel
theorem dX5_look_1 : decode mX5_look.2.1 1 = .ok (.iload_n 1, 1) := by decide +kernel
theorem dX5_look_2 : decode mX5_look.2.1 2 = .ok (.invokevirtual 53, 3) := by decide +kernel
theorem dX5_look_5 : decode mX5_look.2.1 5 = .ok (.astore 4, 2) := by decide +kernel
theorem dX5_look_7 : decode mX5_look.2.1 7 = .ok (.aload 4, 2) := by decide +kernel
theorem dX5_look_9 : decode mX5_look.2.1 9 = .ok (.ifnull 12, 3) := by decide +kernel
theorem dX5_look_12 : decode mX5_look.2.1 12 = .ok (.aload 4, 2) := by decide +kernel
theorem dX5_look_14 : decode mX5_look.2.1 14 = .ok (.iload_n 2, 1) := by decide +kernel
theorem dX5_look_15 : decode mX5_look.2.1 15 = .ok (.invokevirtual 68, 3) := by decide +kernel
theorem dX5_look_18 : decode mX5_look.2.1 18 = .ok (.ifCond .ne 6, 3) := by decide +kernel
theorem dX5_look_21 : decode mX5_look.2.1 21 = .ok (.bipush (-2), 2) := by decide +kernel
theorem dX5_look_23 : decode mX5_look.2.1 23 = .ok (.ireturn, 1) := by decide +kernel
theorem dX5_look_24 : decode mX5_look.2.1 24 = .ok (.aload 4, 2) := by decide +kernel
theorem dX5_look_26 : decode mX5_look.2.1 26 = .ok (.iload_n 2, 1) := by decide +kernel
theorem dX5_look_27 : decode mX5_look.2.1 27 = .ok (.iload_n 3, 1) := by decide +kernel
theorem dX5_look_28 : decode mX5_look.2.1 28 = .ok (.invokevirtual 72, 3) := by decide +kernel
theorem dX5_look_31 : decode mX5_look.2.1 31 = .ok (.ifCond .ne 6, 3) := by decide +kernel
theorem dX5_look_34 : decode mX5_look.2.1 34 = .ok (.bipush (-3), 2) := by decide +kernel
theorem dX5_look_36 : decode mX5_look.2.1 36 = .ok (.ireturn, 1) := by decide +kernel
theorem dX5_look_37 : decode mX5_look.2.1 37 = .ok (.aload 4, 2) := by decide +kernel
theorem dX5_look_39 : decode mX5_look.2.1 39 = .ok (.getfield 61, 3) := by decide +kernel
theorem dX5_look_42 : decode mX5_look.2.1 42 = .ok (.iconst 5, 1) := by decide +kernel
theorem dX5_look_43 : decode mX5_look.2.1 43 = .ok (.if_icmp .ne 6, 3) := by decide +kernel
theorem dX5_look_46 : decode mX5_look.2.1 46 = .ok (.bipush (-4), 2) := by decide +kernel
theorem dX5_look_48 : decode mX5_look.2.1 48 = .ok (.ireturn, 1) := by decide +kernel
theorem dX5_look_49 : decode mX5_look.2.1 49 = .ok (.aload 4, 2) := by decide +kernel
theorem dX5_look_51 : decode mX5_look.2.1 51 = .ok (.iload_n 2, 1) := by decide +kernel
theorem dX5_look_52 : decode mX5_look.2.1 52 = .ok (.iload_n 3, 1) := by decide +kernel
theorem dX5_look_53 : decode mX5_look.2.1 53 = .ok (.invokevirtual 76, 3) := by decide +kernel
theorem dX5_look_56 : decode mX5_look.2.1 56 = .ok (.ireturn, 1) := by decide +kernel
theorem dX5_pass_0 : decode mX5_pass.2.1 0 = .ok (.aload_n 0, 1) := by decide +kernel
theorem dX5_pass_1 : decode mX5_pass.2.1 1 = .ok (.iload_n 1, 1) := by decide +kernel
theorem dX5_pass_2 : decode mX5_pass.2.1 2 = .ok (.invokevirtual 53, 3) := by decide +kernel
theorem dX5_pass_5 : decode mX5_pass.2.1 5 = .ok (.astore_n 2, 1) := by decide +kernel
theorem dX5_pass_6 : decode mX5_pass.2.1 6 = .ok (.aload_n 2, 1) := by decide +kernel
theorem dX5_pass_7 : decode mX5_pass.2.1 7 = .ok (.ifnonnull 6, 3) := by decide +kernel
theorem dX5_pass_10 : decode mX5_pass.2.1 10 = .ok (.bipush (-2), 2) := by decide +kernel
theorem dX5_pass_12 : decode mX5_pass.2.1 12 = .ok (.ireturn, 1) := by decide +kernel
theorem dX5_pass_13 : decode mX5_pass.2.1 13 = .ok (.aload_n 2, 1) := by decide +kernel
theorem dX5_pass_14 : decode mX5_pass.2.1 14 = .ok (.invokevirtual 80, 3) := by decide +kernel
theorem dX5_pass_17 : decode mX5_pass.2.1 17 = .ok (.ifCond .ne 6, 3) := by decide +kernel
theorem dX5_pass_20 : decode mX5_pass.2.1 20 = .ok (.bipush (-4), 2) := by decide +kernel
theorem dX5_pass_22 : decode mX5_pass.2.1 22 = .ok (.ireturn, 1) := by decide +kernel
theorem dX5_pass_23 : decode mX5_pass.2.1 23 = .ok (.aload_n 0, 1) := by decide +kernel
theorem dX5_pass_24 : decode mX5_pass.2.1 24 = .ok (.getfield 38, 3) := by decide +kernel
theorem dX5_pass_27 : decode mX5_pass.2.1 27 = .ok (.aload_n 2, 1) := by decide +kernel
theorem dX5_pass_28 : decode mX5_pass.2.1 28 = .ok (.getfield 61, 3) := by decide +kernel
theorem dX5_pass_31 : decode mX5_pass.2.1 31 = .ok (.aload_n 0, 1) := by decide +kernel
theorem dX5_pass_32 : decode mX5_pass.2.1 32 = .ok (.getfield 49, 3) := by decide +kernel
theorem dX5_pass_35 : decode mX5_pass.2.1 35 = .ok (.invokevirtual 84, 3) := by decide +kernel
theorem dX5_pass_38 : decode mX5_pass.2.1 38 = .ok (.aload_n 2, 1) := by decide +kernel
theorem dX5_pass_39 : decode mX5_pass.2.1 39 = .ok (.invokevirtual 88, 3) := by decide +kernel
theorem dX5_pass_42 : decode mX5_pass.2.1 42 = .ok (.ireturn, 1) := by decide +kernel
theorem dX5_told_0 : decode mX5_told.2.1 0 = .ok (.aload_n 0, 1) := by decide +kernel
theorem dX5_told_1 : decode mX5_told.2.1 1 = .ok (.iload_n 1, 1) := by decide +kernel
theorem dX5_told_2 : decode mX5_told.2.1 2 = .ok (.invokevirtual 53, 3) := by decide +kernel
theorem dX5_told_5 : decode mX5_told.2.1 5 = .ok (.astore_n 3, 1) := by decide +kernel
theorem dX5_told_6 : decode mX5_told.2.1 6 = .ok (.aload_n 3, 1) := by decide +kernel
theorem dX5_told_7 : decode mX5_told.2.1 7 = .ok (.ifnonnull 6, 3) := by decide +kernel
theorem dX5_told_10 : decode mX5_told.2.1 10 = .ok (.bipush (-2), 2) := by decide +kernel
theorem dX5_told_12 : decode mX5_told.2.1 12 = .ok (.ireturn, 1) := by decide +kernel
theorem dX5_told_13 : decode mX5_told.2.1 13 = .ok (.iload_n 2, 1) := by decide +kernel
theorem dX5_told_14 : decode mX5_told.2.1 14 = .ok (.tableswitch 50 0 3 #[30, 35, 40, 45], 30) := by decide +kernel
theorem dX5_told_44 : decode mX5_told.2.1 44 = .ok (.aload_n 3, 1) := by decide +kernel
theorem dX5_told_45 : decode mX5_told.2.1 45 = .ok (.getfield 61, 3) := by decide +kernel
theorem dX5_told_48 : decode mX5_told.2.1 48 = .ok (.ireturn, 1) := by decide +kernel
theorem dX5_told_49 : decode mX5_told.2.1 49 = .ok (.aload_n 3, 1) := by decide +kernel
theorem dX5_told_50 : decode mX5_told.2.1 50 = .ok (.getfield 92, 3) := by decide +kernel
theorem dX5_told_53 : decode mX5_told.2.1 53 = .ok (.ireturn, 1) := by decide +kernel
theorem dX5_told_54 : decode mX5_told.2.1 54 = .ok (.aload_n 3, 1) := by decide +kernel
theorem dX5_told_55 : decode mX5_told.2.1 55 = .ok (.invokevirtual 95, 3) := by decide +kernel
theorem dX5_told_58 : decode mX5_told.2.1 58 = .ok (.ireturn, 1) := by decide +kernel
theorem dX5_told_59 : decode mX5_told.2.1 59 = .ok (.aload_n 3, 1) := by decide +kernel
theorem dX5_told_60 : decode mX5_told.2.1 60 = .ok (.invokevirtual 98, 3) := by decide +kernel
theorem dX5_told_63 : decode mX5_told.2.1 63 = .ok (.ireturn, 1) := by decide +kernel
theorem dX5_told_64 : decode mX5_told.2.1 64 = .ok (.bipush (-3), 2) := by decide +kernel
theorem dX5_told_66 : decode mX5_told.2.1 66 = .ok (.ireturn, 1) := by decide +kernel
theorem dX5_there_0 : decode mX5_there.2.1 0 = .ok (.aload_n 0, 1) := by decide +kernel
theorem dX5_there_1 : decode mX5_there.2.1 1 = .ok (.iload_n 1, 1) := by decide +kernel
theorem dX5_there_2 : decode mX5_there.2.1 2 = .ok (.invokevirtual 53, 3) := by decide +kernel
theorem dX5_there_5 : decode mX5_there.2.1 5 = .ok (.astore_n 3, 1) := by decide +kernel
theorem dX5_there_6 : decode mX5_there.2.1 6 = .ok (.aload_n 3, 1) := by decide +kernel
theorem dX5_there_7 : decode mX5_there.2.1 7 = .ok (.ifnull 11, 3) := by decide +kernel
theorem dX5_there_10 : decode mX5_there.2.1 10 = .ok (.aload_n 3, 1) := by decide +kernel
theorem dX5_there_11 : decode mX5_there.2.1 11 = .ok (.iload_n 2, 1) := by decide +kernel
theorem dX5_there_12 : decode mX5_there.2.1 12 = .ok (.invokevirtual 68, 3) := by decide +kernel
theorem dX5_there_15 : decode mX5_there.2.1 15 = .ok (.ifCond .ne 6, 3) := by decide +kernel
theorem dX5_there_18 : decode mX5_there.2.1 18 = .ok (.bipush (-2), 2) := by decide +kernel
theorem dX5_there_20 : decode mX5_there.2.1 20 = .ok (.ireturn, 1) := by decide +kernel
theorem dX5_there_21 : decode mX5_there.2.1 21 = .ok (.aload_n 3, 1) := by decide +kernel
theorem dX5_there_22 : decode mX5_there.2.1 22 = .ok (.getfield 101, 3) := by decide +kernel
theorem dX5_there_25 : decode mX5_there.2.1 25 = .ok (.iload_n 2, 1) := by decide +kernel
theorem dX5_there_26 : decode mX5_there.2.1 26 = .ok (.iaload, 1) := by decide +kernel
theorem dX5_there_27 : decode mX5_there.2.1 27 = .ok (.ireturn, 1) := by decide +kernel
theorem dX5_gone_0 : decode mX5_gone.2.1 0 = .ok (.aload_n 0, 1) := by decide +kernel
theorem dX5_gone_1 : decode mX5_gone.2.1 1 = .ok (.iload_n 1, 1) := by decide +kernel
theorem dX5_gone_2 : decode mX5_gone.2.1 2 = .ok (.invokevirtual 53, 3) := by decide +kernel
theorem dX5_gone_5 : decode mX5_gone.2.1 5 = .ok (.astore 4, 2) := by decide +kernel
theorem dX5_gone_7 : decode mX5_gone.2.1 7 = .ok (.aload 4, 2) := by decide +kernel
theorem dX5_gone_9 : decode mX5_gone.2.1 9 = .ok (.ifnull 10, 3) := by decide +kernel
theorem dX5_gone_12 : decode mX5_gone.2.1 12 = .ok (.iload_n 2, 1) := by decide +kernel
theorem dX5_gone_13 : decode mX5_gone.2.1 13 = .ok (.invokestatic 105, 3) := by decide +kernel
theorem dX5_gone_16 : decode mX5_gone.2.1 16 = .ok (.ifCond .ne 6, 3) := by decide +kernel
theorem dX5_gone_19 : decode mX5_gone.2.1 19 = .ok (.bipush (-2), 2) := by decide +kernel
theorem dX5_gone_21 : decode mX5_gone.2.1 21 = .ok (.ireturn, 1) := by decide +kernel
theorem dX5_gone_22 : decode mX5_gone.2.1 22 = .ok (.iload_n 3, 1) := by decide +kernel
theorem dX5_gone_23 : decode mX5_gone.2.1 23 = .ok (.lookupswitch 41 #[(0, 25), (1, 33)], 25) := by decide +kernel
theorem dX5_gone_48 : decode mX5_gone.2.1 48 = .ok (.aload 4, 2) := by decide +kernel
theorem dX5_gone_50 : decode mX5_gone.2.1 50 = .ok (.getfield 108, 3) := by decide +kernel
theorem dX5_gone_53 : decode mX5_gone.2.1 53 = .ok (.iload_n 2, 1) := by decide +kernel
theorem dX5_gone_54 : decode mX5_gone.2.1 54 = .ok (.iaload, 1) := by decide +kernel
theorem dX5_gone_55 : decode mX5_gone.2.1 55 = .ok (.ireturn, 1) := by decide +kernel
theorem dX5_gone_56 : decode mX5_gone.2.1 56 = .ok (.aload 4, 2) := by decide +kernel
theorem dX5_gone_58 : decode mX5_gone.2.1 58 = .ok (.getfield 111, 3) := by decide +kernel
theorem dX5_gone_61 : decode mX5_gone.2.1 61 = .ok (.iload_n 2, 1) := by decide +kernel
theorem dX5_gone_62 : decode mX5_gone.2.1 62 = .ok (.iaload, 1) := by decide +kernel
theorem dX5_gone_63 : decode mX5_gone.2.1 63 = .ok (.ireturn, 1) := by decide +kernel
theorem dX5_gone_64 : decode mX5_gone.2.1 64 = .ok (.bipush (-3), 2) := by decide +kernel
theorem dX5_gone_66 : decode mX5_gone.2.1 66 = .ok (.ireturn, 1) := by decide +kernel
theorem dX5_hours_0 : decode mX5_hours.2.1 0 = .ok (.aload_n 0, 1) := by decide +kernel
theorem dX5_hours_1 : decode mX5_hours.2.1 1 = .ok (.iload_n 1, 1) := by decide +kernel
theorem dX5_hours_2 : decode mX5_hours.2.1 2 = .ok (.invokevirtual 53, 3) := by decide +kernel
theorem dX5_hours_5 : decode mX5_hours.2.1 5 = .ok (.astore 4, 2) := by decide +kernel
theorem dX5_hours_7 : decode mX5_hours.2.1 7 = .ok (.aload 4, 2) := by decide +kernel
theorem dX5_hours_9 : decode mX5_hours.2.1 9 = .ok (.ifnull 10, 3) := by decide +kernel
theorem dX5_hours_12 : decode mX5_hours.2.1 12 = .ok (.iload_n 2, 1) := by decide +kernel
theorem dX5_hours_13 : decode mX5_hours.2.1 13 = .ok (.invokestatic 105, 3) := by decide +kernel
theorem dX5_hours_16 : decode mX5_hours.2.1 16 = .ok (.ifCond .ne 6, 3) := by decide +kernel
theorem dX5_hours_19 : decode mX5_hours.2.1 19 = .ok (.bipush (-2), 2) := by decide +kernel
theorem dX5_hours_21 : decode mX5_hours.2.1 21 = .ok (.ireturn, 1) := by decide +kernel
theorem dX5_hours_22 : decode mX5_hours.2.1 22 = .ok (.iload_n 3, 1) := by decide +kernel
theorem dX5_hours_23 : decode mX5_hours.2.1 23 = .ok (.iconst 0, 1) := by decide +kernel
theorem dX5_hours_24 : decode mX5_hours.2.1 24 = .ok (.bipush 50, 2) := by decide +kernel
theorem dX5_hours_26 : decode mX5_hours.2.1 26 = .ok (.invokestatic 57, 3) := by decide +kernel
theorem dX5_hours_29 : decode mX5_hours.2.1 29 = .ok (.ifCond .ne 6, 3) := by decide +kernel
theorem dX5_hours_32 : decode mX5_hours.2.1 32 = .ok (.bipush (-3), 2) := by decide +kernel
theorem dX5_hours_34 : decode mX5_hours.2.1 34 = .ok (.ireturn, 1) := by decide +kernel
theorem dX5_hours_35 : decode mX5_hours.2.1 35 = .ok (.aload 4, 2) := by decide +kernel
theorem dX5_hours_37 : decode mX5_hours.2.1 37 = .ok (.getfield 114, 3) := by decide +kernel
theorem dX5_hours_40 : decode mX5_hours.2.1 40 = .ok (.iload_n 2, 1) := by decide +kernel
theorem dX5_hours_41 : decode mX5_hours.2.1 41 = .ok (.iload_n 3, 1) := by decide +kernel
theorem dX5_hours_42 : decode mX5_hours.2.1 42 = .ok (.iastore, 1) := by decide +kernel
theorem dX5_hours_43 : decode mX5_hours.2.1 43 = .ok (.iconst 1, 1) := by decide +kernel
theorem dX5_hours_44 : decode mX5_hours.2.1 44 = .ok (.ireturn, 1) := by decide +kernel
theorem dX5_promise_0 : decode mX5_promise.2.1 0 = .ok (.aload_n 0, 1) := by decide +kernel
theorem dX5_promise_1 : decode mX5_promise.2.1 1 = .ok (.iload_n 1, 1) := by decide +kernel
theorem dX5_promise_2 : decode mX5_promise.2.1 2 = .ok (.invokevirtual 53, 3) := by decide +kernel
theorem dX5_promise_5 : decode mX5_promise.2.1 5 = .ok (.astore 5, 2) := by decide +kernel
theorem dX5_promise_7 : decode mX5_promise.2.1 7 = .ok (.aload 5, 2) := by decide +kernel
theorem dX5_promise_9 : decode mX5_promise.2.1 9 = .ok (.ifnonnull 6, 3) := by decide +kernel
theorem dX5_promise_12 : decode mX5_promise.2.1 12 = .ok (.bipush (-2), 2) := by decide +kernel
theorem dX5_promise_14 : decode mX5_promise.2.1 14 = .ok (.ireturn, 1) := by decide +kernel
theorem dX5_promise_15 : decode mX5_promise.2.1 15 = .ok (.iload_n 2, 1) := by decide +kernel
theorem dX5_promise_16 : decode mX5_promise.2.1 16 = .ok (.iconst 0, 1) := by decide +kernel
theorem dX5_promise_17 : decode mX5_promise.2.1 17 = .ok (.bipush 30, 2) := by decide +kernel
theorem dX5_promise_19 : decode mX5_promise.2.1 19 = .ok (.invokestatic 57, 3) := by decide +kernel
theorem dX5_promise_22 : decode mX5_promise.2.1 22 = .ok (.ifCond .eq 25, 3) := by decide +kernel
theorem dX5_promise_25 : decode mX5_promise.2.1 25 = .ok (.iload_n 3, 1) := by decide +kernel
theorem dX5_promise_26 : decode mX5_promise.2.1 26 = .ok (.iconst 0, 1) := by decide +kernel
theorem dX5_promise_27 : decode mX5_promise.2.1 27 = .ok (.sipush 2000, 3) := by decide +kernel
theorem dX5_promise_30 : decode mX5_promise.2.1 30 = .ok (.invokestatic 57, 3) := by decide +kernel
theorem dX5_promise_33 : decode mX5_promise.2.1 33 = .ok (.ifCond .eq 14, 3) := by decide +kernel
theorem dX5_promise_36 : decode mX5_promise.2.1 36 = .ok (.iload 4, 2) := by decide +kernel
theorem dX5_promise_38 : decode mX5_promise.2.1 38 = .ok (.iconst 0, 1) := by decide +kernel
theorem dX5_promise_39 : decode mX5_promise.2.1 39 = .ok (.bipush 100, 2) := by decide +kernel
theorem dX5_promise_41 : decode mX5_promise.2.1 41 = .ok (.invokestatic 57, 3) := by decide +kernel
theorem dX5_promise_44 : decode mX5_promise.2.1 44 = .ok (.ifCond .ne 6, 3) := by decide +kernel
theorem dX5_promise_47 : decode mX5_promise.2.1 47 = .ok (.bipush (-3), 2) := by decide +kernel
theorem dX5_promise_49 : decode mX5_promise.2.1 49 = .ok (.ireturn, 1) := by decide +kernel
theorem dX5_promise_50 : decode mX5_promise.2.1 50 = .ok (.aload 5, 2) := by decide +kernel
theorem dX5_promise_52 : decode mX5_promise.2.1 52 = .ok (.iload_n 2, 1) := by decide +kernel
theorem dX5_promise_53 : decode mX5_promise.2.1 53 = .ok (.putfield 117, 3) := by decide +kernel
theorem dX5_promise_56 : decode mX5_promise.2.1 56 = .ok (.aload 5, 2) := by decide +kernel
theorem dX5_promise_58 : decode mX5_promise.2.1 58 = .ok (.iload_n 3, 1) := by decide +kernel
theorem dX5_promise_59 : decode mX5_promise.2.1 59 = .ok (.putfield 120, 3) := by decide +kernel
theorem dX5_promise_62 : decode mX5_promise.2.1 62 = .ok (.aload 5, 2) := by decide +kernel
theorem dX5_promise_64 : decode mX5_promise.2.1 64 = .ok (.iload 4, 2) := by decide +kernel
theorem dX5_promise_66 : decode mX5_promise.2.1 66 = .ok (.putfield 123, 3) := by decide +kernel
theorem dX5_promise_69 : decode mX5_promise.2.1 69 = .ok (.iconst 1, 1) := by decide +kernel
theorem dX5_promise_70 : decode mX5_promise.2.1 70 = .ok (.ireturn, 1) := by decide +kernel
theorem dX5_plan_0 : decode mX5_plan.2.1 0 = .ok (.iload_n 1, 1) := by decide +kernel
theorem dX5_plan_1 : decode mX5_plan.2.1 1 = .ok (.aload_n 0, 1) := by decide +kernel
theorem dX5_plan_2 : decode mX5_plan.2.1 2 = .ok (.getfield 42, 3) := by decide +kernel
theorem dX5_plan_5 : decode mX5_plan.2.1 5 = .ok (.iushr, 1) := by decide +kernel
theorem dX5_plan_6 : decode mX5_plan.2.1 6 = .ok (.ifCond .eq 6, 3) := by decide +kernel
theorem dX5_plan_9 : decode mX5_plan.2.1 9 = .ok (.bipush (-2), 2) := by decide +kernel
theorem dX5_plan_11 : decode mX5_plan.2.1 11 = .ok (.ireturn, 1) := by decide +kernel
theorem dX5_plan_12 : decode mX5_plan.2.1 12 = .ok (.iload_n 1, 1) := by decide +kernel
theorem dX5_plan_13 : decode mX5_plan.2.1 13 = .ok (.invokestatic 126, 3) := by decide +kernel
theorem dX5_plan_16 : decode mX5_plan.2.1 16 = .ok (.iconst 1, 1) := by decide +kernel
theorem dX5_plan_17 : decode mX5_plan.2.1 17 = .ok (.bipush 7, 2) := by decide +kernel
theorem dX5_plan_19 : decode mX5_plan.2.1 19 = .ok (.invokestatic 57, 3) := by decide +kernel
theorem dX5_plan_22 : decode mX5_plan.2.1 22 = .ok (.ifCond .ne 6, 3) := by decide +kernel
theorem dX5_plan_25 : decode mX5_plan.2.1 25 = .ok (.bipush (-3), 2) := by decide +kernel
theorem dX5_plan_27 : decode mX5_plan.2.1 27 = .ok (.ireturn, 1) := by decide +kernel
theorem dX5_plan_28 : decode mX5_plan.2.1 28 = .ok (.aload_n 0, 1) := by decide +kernel
theorem dX5_plan_29 : decode mX5_plan.2.1 29 = .ok (.getfield 18, 3) := by decide +kernel
theorem dX5_plan_32 : decode mX5_plan.2.1 32 = .ok (.invokevirtual 131, 3) := by decide +kernel
theorem dX5_plan_35 : decode mX5_plan.2.1 35 = .ok (.iconst 0, 1) := by decide +kernel
theorem dX5_plan_36 : decode mX5_plan.2.1 36 = .ok (.istore_n 2, 1) := by decide +kernel
theorem dX5_plan_37 : decode mX5_plan.2.1 37 = .ok (.iload_n 2, 1) := by decide +kernel
theorem dX5_plan_38 : decode mX5_plan.2.1 38 = .ok (.aload_n 0, 1) := by decide +kernel
theorem dX5_plan_39 : decode mX5_plan.2.1 39 = .ok (.getfield 42, 3) := by decide +kernel
theorem dX5_plan_42 : decode mX5_plan.2.1 42 = .ok (.if_icmp .ge 37, 3) := by decide +kernel
theorem dX5_plan_45 : decode mX5_plan.2.1 45 = .ok (.aload_n 0, 1) := by decide +kernel
theorem dX5_plan_46 : decode mX5_plan.2.1 46 = .ok (.iload_n 2, 1) := by decide +kernel
theorem dX5_plan_47 : decode mX5_plan.2.1 47 = .ok (.invokevirtual 53, 3) := by decide +kernel
theorem dX5_plan_50 : decode mX5_plan.2.1 50 = .ok (.astore_n 3, 1) := by decide +kernel
theorem dX5_plan_51 : decode mX5_plan.2.1 51 = .ok (.aload_n 3, 1) := by decide +kernel
theorem dX5_plan_52 : decode mX5_plan.2.1 52 = .ok (.ifnull 21, 3) := by decide +kernel
theorem dX5_plan_55 : decode mX5_plan.2.1 55 = .ok (.iload_n 1, 1) := by decide +kernel
theorem dX5_plan_56 : decode mX5_plan.2.1 56 = .ok (.iload_n 2, 1) := by decide +kernel
theorem dX5_plan_57 : decode mX5_plan.2.1 57 = .ok (.ishr, 1) := by decide +kernel
theorem dX5_plan_58 : decode mX5_plan.2.1 58 = .ok (.iconst 1, 1) := by decide +kernel
theorem dX5_plan_59 : decode mX5_plan.2.1 59 = .ok (.iand, 1) := by decide +kernel
theorem dX5_plan_60 : decode mX5_plan.2.1 60 = .ok (.iconst 1, 1) := by decide +kernel
theorem dX5_plan_61 : decode mX5_plan.2.1 61 = .ok (.if_icmp .ne 12, 3) := by decide +kernel
theorem dX5_plan_64 : decode mX5_plan.2.1 64 = .ok (.aload_n 0, 1) := by decide +kernel
theorem dX5_plan_65 : decode mX5_plan.2.1 65 = .ok (.getfield 18, 3) := by decide +kernel
theorem dX5_plan_68 : decode mX5_plan.2.1 68 = .ok (.iload_n 2, 1) := by decide +kernel
theorem dX5_plan_69 : decode mX5_plan.2.1 69 = .ok (.aload_n 3, 1) := by decide +kernel
theorem dX5_plan_70 : decode mX5_plan.2.1 70 = .ok (.invokevirtual 134, 3) := by decide +kernel
theorem dX5_plan_73 : decode mX5_plan.2.1 73 = .ok (.iinc 2 1, 3) := by decide +kernel
theorem dX5_plan_76 : decode mX5_plan.2.1 76 = .ok (.goto (-39), 3) := by decide +kernel
theorem dX5_plan_79 : decode mX5_plan.2.1 79 = .ok (.aload_n 0, 1) := by decide +kernel
theorem dX5_plan_80 : decode mX5_plan.2.1 80 = .ok (.getfield 18, 3) := by decide +kernel
theorem dX5_plan_83 : decode mX5_plan.2.1 83 = .ok (.invokevirtual 138, 3) := by decide +kernel
theorem dX5_plan_86 : decode mX5_plan.2.1 86 = .ok (.ireturn, 1) := by decide +kernel
theorem dX5_planned_0 : decode mX5_planned.2.1 0 = .ok (.aload_n 0, 1) := by decide +kernel
theorem dX5_planned_1 : decode mX5_planned.2.1 1 = .ok (.getfield 18, 3) := by decide +kernel
theorem dX5_planned_4 : decode mX5_planned.2.1 4 = .ok (.iload_n 1, 1) := by decide +kernel
theorem dX5_planned_5 : decode mX5_planned.2.1 5 = .ok (.invokevirtual 141, 3) := by decide +kernel
theorem dX5_planned_8 : decode mX5_planned.2.1 8 = .ok (.ifCond .ne 6, 3) := by decide +kernel
theorem dX5_planned_11 : decode mX5_planned.2.1 11 = .ok (.bipush (-3), 2) := by decide +kernel
theorem dX5_planned_13 : decode mX5_planned.2.1 13 = .ok (.ireturn, 1) := by decide +kernel
theorem dX5_planned_14 : decode mX5_planned.2.1 14 = .ok (.iload_n 2, 1) := by decide +kernel
theorem dX5_planned_15 : decode mX5_planned.2.1 15 = .ok (.lookupswitch 44 #[(0, 25), (1, 34)], 25) := by decide +kernel
theorem dX5_planned_40 : decode mX5_planned.2.1 40 = .ok (.aload_n 0, 1) := by decide +kernel
theorem dX5_planned_41 : decode mX5_planned.2.1 41 = .ok (.getfield 18, 3) := by decide +kernel
theorem dX5_planned_44 : decode mX5_planned.2.1 44 = .ok (.iload_n 1, 1) := by decide +kernel
theorem dX5_planned_45 : decode mX5_planned.2.1 45 = .ok (.invokevirtual 144, 3) := by decide +kernel
theorem dX5_planned_48 : decode mX5_planned.2.1 48 = .ok (.ireturn, 1) := by decide +kernel
theorem dX5_planned_49 : decode mX5_planned.2.1 49 = .ok (.aload_n 0, 1) := by decide +kernel
theorem dX5_planned_50 : decode mX5_planned.2.1 50 = .ok (.getfield 18, 3) := by decide +kernel
theorem dX5_planned_53 : decode mX5_planned.2.1 53 = .ok (.getfield 147, 3) := by decide +kernel
theorem dX5_planned_56 : decode mX5_planned.2.1 56 = .ok (.iload_n 1, 1) := by decide +kernel
theorem dX5_planned_57 : decode mX5_planned.2.1 57 = .ok (.iaload, 1) := by decide +kernel
theorem dX5_planned_58 : decode mX5_planned.2.1 58 = .ok (.ireturn, 1) := by decide +kernel
theorem dX5_planned_59 : decode mX5_planned.2.1 59 = .ok (.bipush (-3), 2) := by decide +kernel
theorem dX5_planned_61 : decode mX5_planned.2.1 61 = .ok (.ireturn, 1) := by decide +kernel
theorem dX5_delays_0 : decode mX5_delays.2.1 0 = .ok (.aload_n 0, 1) := by decide +kernel
theorem dX5_delays_1 : decode mX5_delays.2.1 1 = .ok (.iload_n 1, 1) := by decide +kernel
theorem dX5_delays_2 : decode mX5_delays.2.1 2 = .ok (.invokevirtual 53, 3) := by decide +kernel
theorem dX5_delays_5 : decode mX5_delays.2.1 5 = .ok (.ifnonnull 6, 3) := by decide +kernel
theorem dX5_delays_8 : decode mX5_delays.2.1 8 = .ok (.bipush (-2), 2) := by decide +kernel
theorem dX5_delays_10 : decode mX5_delays.2.1 10 = .ok (.ireturn, 1) := by decide +kernel
theorem dX5_delays_11 : decode mX5_delays.2.1 11 = .ok (.aload_n 0, 1) := by decide +kernel
theorem dX5_delays_12 : decode mX5_delays.2.1 12 = .ok (.getfield 18, 3) := by decide +kernel
theorem dX5_delays_15 : decode mX5_delays.2.1 15 = .ok (.iload_n 1, 1) := by decide +kernel
theorem dX5_delays_16 : decode mX5_delays.2.1 16 = .ok (.invokevirtual 150, 3) := by decide +kernel
theorem dX5_delays_19 : decode mX5_delays.2.1 19 = .ok (.istore_n 2, 1) := by decide +kernel
theorem dX5_delays_20 : decode mX5_delays.2.1 20 = .ok (.iload_n 2, 1) := by decide +kernel
theorem dX5_delays_21 : decode mX5_delays.2.1 21 = .ok (.iconst (-1), 1) := by decide +kernel
theorem dX5_delays_22 : decode mX5_delays.2.1 22 = .ok (.if_icmp .ne 6, 3) := by decide +kernel
theorem dX5_delays_25 : decode mX5_delays.2.1 25 = .ok (.bipush (-4), 2) := by decide +kernel
theorem dX5_delays_27 : decode mX5_delays.2.1 27 = .ok (.ireturn, 1) := by decide +kernel
theorem dX5_delays_28 : decode mX5_delays.2.1 28 = .ok (.aload_n 0, 1) := by decide +kernel
theorem dX5_delays_29 : decode mX5_delays.2.1 29 = .ok (.getfield 18, 3) := by decide +kernel
theorem dX5_delays_32 : decode mX5_delays.2.1 32 = .ok (.iload_n 2, 1) := by decide +kernel
theorem dX5_delays_33 : decode mX5_delays.2.1 33 = .ok (.invokevirtual 153, 3) := by decide +kernel
theorem dX5_delays_36 : decode mX5_delays.2.1 36 = .ok (.ireturn, 1) := by decide +kernel
theorem dX5_width_0 : decode mX5_width.2.1 0 = .ok (.iload_n 1, 1) := by decide +kernel
theorem dX5_width_1 : decode mX5_width.2.1 1 = .ok (.invokestatic 156, 3) := by decide +kernel
theorem dX5_width_4 : decode mX5_width.2.1 4 = .ok (.ifCond .ne 6, 3) := by decide +kernel
theorem dX5_width_7 : decode mX5_width.2.1 7 = .ok (.bipush (-2), 2) := by decide +kernel
theorem dX5_width_9 : decode mX5_width.2.1 9 = .ok (.ireturn, 1) := by decide +kernel
theorem dX5_width_10 : decode mX5_width.2.1 10 = .ok (.iload_n 2, 1) := by decide +kernel
theorem dX5_width_11 : decode mX5_width.2.1 11 = .ok (.iload_n 1, 1) := by decide +kernel
theorem dX5_width_12 : decode mX5_width.2.1 12 = .ok (.ifCond .ne 7, 3) := by decide +kernel
theorem dX5_width_15 : decode mX5_width.2.1 15 = .ok (.iconst 0, 1) := by decide +kernel
theorem dX5_width_16 : decode mX5_width.2.1 16 = .ok (.goto 4, 3) := by decide +kernel
theorem dX5_width_19 : decode mX5_width.2.1 19 = .ok (.iconst 1, 1) := by decide +kernel
theorem dX5_width_20 : decode mX5_width.2.1 20 = .ok (.bipush 20, 2) := by decide +kernel
theorem dX5_width_22 : decode mX5_width.2.1 22 = .ok (.invokestatic 57, 3) := by decide +kernel
theorem dX5_width_25 : decode mX5_width.2.1 25 = .ok (.ifCond .ne 6, 3) := by decide +kernel
theorem dX5_width_28 : decode mX5_width.2.1 28 = .ok (.bipush (-3), 2) := by decide +kernel
theorem dX5_width_30 : decode mX5_width.2.1 30 = .ok (.ireturn, 1) := by decide +kernel
theorem dX5_width_31 : decode mX5_width.2.1 31 = .ok (.aload_n 0, 1) := by decide +kernel
theorem dX5_width_32 : decode mX5_width.2.1 32 = .ok (.getfield 25, 3) := by decide +kernel
theorem dX5_width_35 : decode mX5_width.2.1 35 = .ok (.getfield 159, 3) := by decide +kernel
theorem dX5_width_38 : decode mX5_width.2.1 38 = .ok (.iload_n 1, 1) := by decide +kernel
theorem dX5_width_39 : decode mX5_width.2.1 39 = .ok (.iaload, 1) := by decide +kernel
theorem dX5_width_40 : decode mX5_width.2.1 40 = .ok (.istore_n 3, 1) := by decide +kernel
theorem dX5_width_41 : decode mX5_width.2.1 41 = .ok (.aload_n 0, 1) := by decide +kernel
theorem dX5_width_42 : decode mX5_width.2.1 42 = .ok (.getfield 25, 3) := by decide +kernel
theorem dX5_width_45 : decode mX5_width.2.1 45 = .ok (.getfield 159, 3) := by decide +kernel
theorem dX5_width_48 : decode mX5_width.2.1 48 = .ok (.iload_n 1, 1) := by decide +kernel
theorem dX5_width_49 : decode mX5_width.2.1 49 = .ok (.iload_n 2, 1) := by decide +kernel
theorem dX5_width_50 : decode mX5_width.2.1 50 = .ok (.iastore, 1) := by decide +kernel
theorem dX5_width_51 : decode mX5_width.2.1 51 = .ok (.iload_n 3, 1) := by decide +kernel
theorem dX5_width_52 : decode mX5_width.2.1 52 = .ok (.ireturn, 1) := by decide +kernel
theorem dX5_sign_0 : decode mX5_sign.2.1 0 = .ok (.iload_n 1, 1) := by decide +kernel
theorem dX5_sign_1 : decode mX5_sign.2.1 1 = .ok (.invokestatic 156, 3) := by decide +kernel
theorem dX5_sign_4 : decode mX5_sign.2.1 4 = .ok (.ifCond .ne 6, 3) := by decide +kernel
theorem dX5_sign_7 : decode mX5_sign.2.1 7 = .ok (.bipush (-2), 2) := by decide +kernel
theorem dX5_sign_9 : decode mX5_sign.2.1 9 = .ok (.ireturn, 1) := by decide +kernel
theorem dX5_sign_10 : decode mX5_sign.2.1 10 = .ok (.aload_n 0, 1) := by decide +kernel
theorem dX5_sign_11 : decode mX5_sign.2.1 11 = .ok (.getfield 25, 3) := by decide +kernel
theorem dX5_sign_14 : decode mX5_sign.2.1 14 = .ok (.iload_n 1, 1) := by decide +kernel
theorem dX5_sign_15 : decode mX5_sign.2.1 15 = .ok (.invokevirtual 162, 3) := by decide +kernel
theorem dX5_sign_18 : decode mX5_sign.2.1 18 = .ok (.ireturn, 1) := by decide +kernel
theorem dX5_wipe_0 : decode mX5_wipe.2.1 0 = .ok (.aload_n 0, 1) := by decide +kernel
theorem dX5_wipe_1 : decode mX5_wipe.2.1 1 = .ok (.getfield 25, 3) := by decide +kernel
theorem dX5_wipe_4 : decode mX5_wipe.2.1 4 = .ok (.getfield 165, 3) := by decide +kernel
theorem dX5_wipe_7 : decode mX5_wipe.2.1 7 = .ok (.istore_n 1, 1) := by decide +kernel
theorem dX5_wipe_8 : decode mX5_wipe.2.1 8 = .ok (.aload_n 0, 1) := by decide +kernel
theorem dX5_wipe_9 : decode mX5_wipe.2.1 9 = .ok (.getfield 25, 3) := by decide +kernel
theorem dX5_wipe_12 : decode mX5_wipe.2.1 12 = .ok (.iconst 0, 1) := by decide +kernel
theorem dX5_wipe_13 : decode mX5_wipe.2.1 13 = .ok (.putfield 165, 3) := by decide +kernel
theorem dX5_wipe_16 : decode mX5_wipe.2.1 16 = .ok (.iload_n 1, 1) := by decide +kernel
theorem dX5_wipe_17 : decode mX5_wipe.2.1 17 = .ok (.ireturn, 1) := by decide +kernel
theorem dX5_broken_0 : decode mX5_broken.2.1 0 = .ok (.iload_n 1, 1) := by decide +kernel
theorem dX5_broken_1 : decode mX5_broken.2.1 1 = .ok (.iconst 1, 1) := by decide +kernel
theorem dX5_broken_2 : decode mX5_broken.2.1 2 = .ok (.sipush 400, 3) := by decide +kernel
theorem dX5_broken_5 : decode mX5_broken.2.1 5 = .ok (.invokestatic 57, 3) := by decide +kernel
theorem dX5_broken_8 : decode mX5_broken.2.1 8 = .ok (.ifCond .eq 13, 3) := by decide +kernel
theorem dX5_broken_11 : decode mX5_broken.2.1 11 = .ok (.iload_n 2, 1) := by decide +kernel
theorem dX5_broken_12 : decode mX5_broken.2.1 12 = .ok (.iconst 1, 1) := by decide +kernel
theorem dX5_broken_13 : decode mX5_broken.2.1 13 = .ok (.bipush 6, 2) := by decide +kernel
theorem dX5_broken_15 : decode mX5_broken.2.1 15 = .ok (.invokestatic 57, 3) := by decide +kernel
theorem dX5_broken_18 : decode mX5_broken.2.1 18 = .ok (.ifCond .ne 6, 3) := by decide +kernel
theorem dX5_broken_21 : decode mX5_broken.2.1 21 = .ok (.bipush (-3), 2) := by decide +kernel
theorem dX5_broken_23 : decode mX5_broken.2.1 23 = .ok (.ireturn, 1) := by decide +kernel
theorem dX5_broken_24 : decode mX5_broken.2.1 24 = .ok (.aload_n 0, 1) := by decide +kernel
theorem dX5_broken_25 : decode mX5_broken.2.1 25 = .ok (.getfield 25, 3) := by decide +kernel
theorem dX5_broken_28 : decode mX5_broken.2.1 28 = .ok (.iload_n 1, 1) := by decide +kernel
theorem dX5_broken_29 : decode mX5_broken.2.1 29 = .ok (.iload_n 2, 1) := by decide +kernel
theorem dX5_broken_30 : decode mX5_broken.2.1 30 = .ok (.invokevirtual 168, 3) := by decide +kernel
theorem dX5_broken_33 : decode mX5_broken.2.1 33 = .ok (.ireturn, 1) := by decide +kernel
theorem dX5_line_0 : decode mX5_line.2.1 0 = .ok (.iload_n 1, 1) := by decide +kernel
theorem dX5_line_1 : decode mX5_line.2.1 1 = .ok (.iconst 0, 1) := by decide +kernel
theorem dX5_line_2 : decode mX5_line.2.1 2 = .ok (.aload_n 0, 1) := by decide +kernel
theorem dX5_line_3 : decode mX5_line.2.1 3 = .ok (.getfield 25, 3) := by decide +kernel
theorem dX5_line_6 : decode mX5_line.2.1 6 = .ok (.getfield 171, 3) := by decide +kernel
theorem dX5_line_9 : decode mX5_line.2.1 9 = .ok (.iconst 1, 1) := by decide +kernel
theorem dX5_line_10 : decode mX5_line.2.1 10 = .ok (.isub, 1) := by decide +kernel
theorem dX5_line_11 : decode mX5_line.2.1 11 = .ok (.invokestatic 57, 3) := by decide +kernel
theorem dX5_line_14 : decode mX5_line.2.1 14 = .ok (.ifCond .ne 6, 3) := by decide +kernel
theorem dX5_line_17 : decode mX5_line.2.1 17 = .ok (.bipush (-3), 2) := by decide +kernel
theorem dX5_line_19 : decode mX5_line.2.1 19 = .ok (.ireturn, 1) := by decide +kernel
theorem dX5_line_20 : decode mX5_line.2.1 20 = .ok (.aload_n 0, 1) := by decide +kernel
theorem dX5_line_21 : decode mX5_line.2.1 21 = .ok (.getfield 25, 3) := by decide +kernel
theorem dX5_line_24 : decode mX5_line.2.1 24 = .ok (.getfield 174, 3) := by decide +kernel
theorem dX5_line_27 : decode mX5_line.2.1 27 = .ok (.iload_n 1, 1) := by decide +kernel
theorem dX5_line_28 : decode mX5_line.2.1 28 = .ok (.iaload, 1) := by decide +kernel
theorem dX5_line_29 : decode mX5_line.2.1 29 = .ok (.ireturn, 1) := by decide +kernel
theorem dX5_stamp_0 : decode mX5_stamp.2.1 0 = .ok (.aload_n 0, 1) := by decide +kernel
theorem dX5_stamp_1 : decode mX5_stamp.2.1 1 = .ok (.getfield 25, 3) := by decide +kernel
theorem dX5_stamp_4 : decode mX5_stamp.2.1 4 = .ok (.invokevirtual 177, 3) := by decide +kernel
theorem dX5_stamp_7 : decode mX5_stamp.2.1 7 = .ok (.istore_n 1, 1) := by decide +kernel
theorem dX5_stamp_8 : decode mX5_stamp.2.1 8 = .ok (.iload_n 1, 1) := by decide +kernel
theorem dX5_stamp_9 : decode mX5_stamp.2.1 9 = .ok (.ifCond .ne 6, 3) := by decide +kernel
theorem dX5_stamp_12 : decode mX5_stamp.2.1 12 = .ok (.bipush (-4), 2) := by decide +kernel
theorem dX5_stamp_14 : decode mX5_stamp.2.1 14 = .ok (.ireturn, 1) := by decide +kernel
theorem dX5_stamp_15 : decode mX5_stamp.2.1 15 = .ok (.aload_n 0, 1) := by decide +kernel
theorem dX5_stamp_16 : decode mX5_stamp.2.1 16 = .ok (.getfield 25, 3) := by decide +kernel
theorem dX5_stamp_19 : decode mX5_stamp.2.1 19 = .ok (.invokevirtual 180, 3) := by decide +kernel
theorem dX5_stamp_22 : decode mX5_stamp.2.1 22 = .ok (.ifCond .eq 6, 3) := by decide +kernel
theorem dX5_stamp_25 : decode mX5_stamp.2.1 25 = .ok (.bipush (-5), 2) := by decide +kernel
theorem dX5_stamp_27 : decode mX5_stamp.2.1 27 = .ok (.ireturn, 1) := by decide +kernel
theorem dX5_stamp_28 : decode mX5_stamp.2.1 28 = .ok (.aload_n 0, 1) := by decide +kernel
theorem dX5_stamp_29 : decode mX5_stamp.2.1 29 = .ok (.getfield 25, 3) := by decide +kernel
theorem dX5_stamp_32 : decode mX5_stamp.2.1 32 = .ok (.invokevirtual 183, 3) := by decide +kernel
theorem dX5_stamp_35 : decode mX5_stamp.2.1 35 = .ok (.iload_n 1, 1) := by decide +kernel
theorem dX5_stamp_36 : decode mX5_stamp.2.1 36 = .ok (.ireturn, 1) := by decide +kernel
theorem dX5_sharpen_0 : decode mX5_sharpen.2.1 0 = .ok (.iload_n 1, 1) := by decide +kernel
theorem dX5_sharpen_1 : decode mX5_sharpen.2.1 1 = .ok (.iconst 1, 1) := by decide +kernel
theorem dX5_sharpen_2 : decode mX5_sharpen.2.1 2 = .ok (.bipush 26, 2) := by decide +kernel
theorem dX5_sharpen_4 : decode mX5_sharpen.2.1 4 = .ok (.invokestatic 57, 3) := by decide +kernel
theorem dX5_sharpen_7 : decode mX5_sharpen.2.1 7 = .ok (.ifCond .ne 6, 3) := by decide +kernel
theorem dX5_sharpen_10 : decode mX5_sharpen.2.1 10 = .ok (.bipush (-2), 2) := by decide +kernel
theorem dX5_sharpen_12 : decode mX5_sharpen.2.1 12 = .ok (.ireturn, 1) := by decide +kernel
theorem dX5_sharpen_13 : decode mX5_sharpen.2.1 13 = .ok (.aload_n 0, 1) := by decide +kernel
theorem dX5_sharpen_14 : decode mX5_sharpen.2.1 14 = .ok (.getfield 25, 3) := by decide +kernel
theorem dX5_sharpen_17 : decode mX5_sharpen.2.1 17 = .ok (.getfield 186, 3) := by decide +kernel
theorem dX5_sharpen_20 : decode mX5_sharpen.2.1 20 = .ok (.iload_n 1, 1) := by decide +kernel
theorem dX5_sharpen_21 : decode mX5_sharpen.2.1 21 = .ok (.iaload, 1) := by decide +kernel
theorem dX5_sharpen_22 : decode mX5_sharpen.2.1 22 = .ok (.istore_n 2, 1) := by decide +kernel
theorem dX5_sharpen_23 : decode mX5_sharpen.2.1 23 = .ok (.aload_n 0, 1) := by decide +kernel
theorem dX5_sharpen_24 : decode mX5_sharpen.2.1 24 = .ok (.getfield 25, 3) := by decide +kernel
theorem dX5_sharpen_27 : decode mX5_sharpen.2.1 27 = .ok (.getfield 186, 3) := by decide +kernel
theorem dX5_sharpen_30 : decode mX5_sharpen.2.1 30 = .ok (.iload_n 1, 1) := by decide +kernel
theorem dX5_sharpen_31 : decode mX5_sharpen.2.1 31 = .ok (.iconst 0, 1) := by decide +kernel
theorem dX5_sharpen_32 : decode mX5_sharpen.2.1 32 = .ok (.iastore, 1) := by decide +kernel
theorem dX5_sharpen_33 : decode mX5_sharpen.2.1 33 = .ok (.iload_n 2, 1) := by decide +kernel
theorem dX5_sharpen_34 : decode mX5_sharpen.2.1 34 = .ok (.ireturn, 1) := by decide +kernel
theorem dX5_last_0 : decode mX5_last.2.1 0 = .ok (.iload_n 1, 1) := by decide +kernel
theorem dX5_last_1 : decode mX5_last.2.1 1 = .ok (.iconst 1, 1) := by decide +kernel
theorem dX5_last_2 : decode mX5_last.2.1 2 = .ok (.sipush 1000, 3) := by decide +kernel
theorem dX5_last_5 : decode mX5_last.2.1 5 = .ok (.invokestatic 57, 3) := by decide +kernel
theorem dX5_last_8 : decode mX5_last.2.1 8 = .ok (.ifCond .ne 6, 3) := by decide +kernel
theorem dX5_last_11 : decode mX5_last.2.1 11 = .ok (.bipush (-3), 2) := by decide +kernel
theorem dX5_last_13 : decode mX5_last.2.1 13 = .ok (.ireturn, 1) := by decide +kernel
theorem dX5_last_14 : decode mX5_last.2.1 14 = .ok (.aload_n 0, 1) := by decide +kernel
theorem dX5_last_15 : decode mX5_last.2.1 15 = .ok (.getfield 25, 3) := by decide +kernel
theorem dX5_last_18 : decode mX5_last.2.1 18 = .ok (.getfield 189, 3) := by decide +kernel
theorem dX5_last_21 : decode mX5_last.2.1 21 = .ok (.istore_n 2, 1) := by decide +kernel
theorem dX5_last_22 : decode mX5_last.2.1 22 = .ok (.aload_n 0, 1) := by decide +kernel
theorem dX5_last_23 : decode mX5_last.2.1 23 = .ok (.getfield 25, 3) := by decide +kernel
theorem dX5_last_26 : decode mX5_last.2.1 26 = .ok (.iload_n 1, 1) := by decide +kernel
theorem dX5_last_27 : decode mX5_last.2.1 27 = .ok (.putfield 189, 3) := by decide +kernel
theorem dX5_last_30 : decode mX5_last.2.1 30 = .ok (.iload_n 2, 1) := by decide +kernel
theorem dX5_last_31 : decode mX5_last.2.1 31 = .ok (.ireturn, 1) := by decide +kernel
theorem dX5_skin_0 : decode mX5_skin.2.1 0 = .ok (.iload_n 1, 1) := by decide +kernel
theorem dX5_skin_1 : decode mX5_skin.2.1 1 = .ok (.iload_n 2, 1) := by decide +kernel
theorem dX5_skin_2 : decode mX5_skin.2.1 2 = .ok (.invokestatic 192, 3) := by decide +kernel
theorem dX5_skin_5 : decode mX5_skin.2.1 5 = .ok (.ifCond .eq 13, 3) := by decide +kernel
theorem dX5_skin_8 : decode mX5_skin.2.1 8 = .ok (.iload_n 3, 1) := by decide +kernel
theorem dX5_skin_9 : decode mX5_skin.2.1 9 = .ok (.iconst 0, 1) := by decide +kernel
theorem dX5_skin_10 : decode mX5_skin.2.1 10 = .ok (.bipush 9, 2) := by decide +kernel
theorem dX5_skin_12 : decode mX5_skin.2.1 12 = .ok (.invokestatic 57, 3) := by decide +kernel
theorem dX5_skin_15 : decode mX5_skin.2.1 15 = .ok (.ifCond .ne 6, 3) := by decide +kernel
theorem dX5_skin_18 : decode mX5_skin.2.1 18 = .ok (.bipush (-3), 2) := by decide +kernel
theorem dX5_skin_20 : decode mX5_skin.2.1 20 = .ok (.ireturn, 1) := by decide +kernel
theorem dX5_skin_21 : decode mX5_skin.2.1 21 = .ok (.aload_n 0, 1) := by decide +kernel
theorem dX5_skin_22 : decode mX5_skin.2.1 22 = .ok (.getfield 46, 3) := by decide +kernel
theorem dX5_skin_25 : decode mX5_skin.2.1 25 = .ok (.bipush 6, 2) := by decide +kernel
theorem dX5_skin_27 : decode mX5_skin.2.1 27 = .ok (.if_icmp .lt 6, 3) := by decide +kernel
theorem dX5_skin_30 : decode mX5_skin.2.1 30 = .ok (.bipush (-6), 2) := by decide +kernel
theorem dX5_skin_32 : decode mX5_skin.2.1 32 = .ok (.ireturn, 1) := by decide +kernel
theorem dX5_skin_33 : decode mX5_skin.2.1 33 = .ok (.aload_n 0, 1) := by decide +kernel
theorem dX5_skin_34 : decode mX5_skin.2.1 34 = .ok (.getfield 31, 3) := by decide +kernel
theorem dX5_skin_37 : decode mX5_skin.2.1 37 = .ok (.aload_n 0, 1) := by decide +kernel
theorem dX5_skin_38 : decode mX5_skin.2.1 38 = .ok (.getfield 46, 3) := by decide +kernel
theorem dX5_skin_41 : decode mX5_skin.2.1 41 = .ok (.new 29, 3) := by decide +kernel
theorem dX5_skin_44 : decode mX5_skin.2.1 44 = .ok (.dup, 1) := by decide +kernel
theorem dX5_skin_45 : decode mX5_skin.2.1 45 = .ok (.iload_n 1, 1) := by decide +kernel
theorem dX5_skin_46 : decode mX5_skin.2.1 46 = .ok (.iload_n 2, 1) := by decide +kernel
theorem dX5_skin_47 : decode mX5_skin.2.1 47 = .ok (.iload_n 3, 1) := by decide +kernel
theorem dX5_skin_48 : decode mX5_skin.2.1 48 = .ok (.invokespecial 195, 3) := by decide +kernel
theorem dX5_skin_51 : decode mX5_skin.2.1 51 = .ok (.aastore, 1) := by decide +kernel
theorem dX5_skin_52 : decode mX5_skin.2.1 52 = .ok (.aload_n 0, 1) := by decide +kernel
theorem dX5_skin_53 : decode mX5_skin.2.1 53 = .ok (.dup, 1) := by decide +kernel
theorem dX5_skin_54 : decode mX5_skin.2.1 54 = .ok (.getfield 46, 3) := by decide +kernel
theorem dX5_skin_57 : decode mX5_skin.2.1 57 = .ok (.iconst 1, 1) := by decide +kernel
theorem dX5_skin_58 : decode mX5_skin.2.1 58 = .ok (.iadd, 1) := by decide +kernel
theorem dX5_skin_59 : decode mX5_skin.2.1 59 = .ok (.putfield 46, 3) := by decide +kernel
theorem dX5_skin_62 : decode mX5_skin.2.1 62 = .ok (.aload_n 0, 1) := by decide +kernel
theorem dX5_skin_63 : decode mX5_skin.2.1 63 = .ok (.getfield 46, 3) := by decide +kernel
theorem dX5_skin_66 : decode mX5_skin.2.1 66 = .ok (.iconst 1, 1) := by decide +kernel
theorem dX5_skin_67 : decode mX5_skin.2.1 67 = .ok (.isub, 1) := by decide +kernel
theorem dX5_skin_68 : decode mX5_skin.2.1 68 = .ok (.ireturn, 1) := by decide +kernel
theorem dX5_flaw_0 : decode mX5_flaw.2.1 0 = .ok (.aload_n 0, 1) := by decide +kernel
theorem dX5_flaw_1 : decode mX5_flaw.2.1 1 = .ok (.iload_n 1, 1) := by decide +kernel
theorem dX5_flaw_2 : decode mX5_flaw.2.1 2 = .ok (.invokevirtual 198, 3) := by decide +kernel
theorem dX5_flaw_5 : decode mX5_flaw.2.1 5 = .ok (.astore 4, 2) := by decide +kernel
theorem dX5_flaw_7 : decode mX5_flaw.2.1 7 = .ok (.aload 4, 2) := by decide +kernel
theorem dX5_flaw_9 : decode mX5_flaw.2.1 9 = .ok (.ifnonnull 6, 3) := by decide +kernel
theorem dX5_flaw_12 : decode mX5_flaw.2.1 12 = .ok (.bipush (-2), 2) := by decide +kernel
theorem dX5_flaw_14 : decode mX5_flaw.2.1 14 = .ok (.ireturn, 1) := by decide +kernel
theorem dX5_flaw_15 : decode mX5_flaw.2.1 15 = .ok (.aload 4, 2) := by decide +kernel
theorem dX5_flaw_17 : decode mX5_flaw.2.1 17 = .ok (.iload_n 2, 1) := by decide +kernel
theorem dX5_flaw_18 : decode mX5_flaw.2.1 18 = .ok (.iload_n 3, 1) := by decide +kernel
theorem dX5_flaw_19 : decode mX5_flaw.2.1 19 = .ok (.invokevirtual 202, 3) := by decide +kernel
theorem dX5_flaw_22 : decode mX5_flaw.2.1 22 = .ok (.ifCond .ne 6, 3) := by decide +kernel
theorem dX5_flaw_25 : decode mX5_flaw.2.1 25 = .ok (.bipush (-3), 2) := by decide +kernel
theorem dX5_flaw_27 : decode mX5_flaw.2.1 27 = .ok (.ireturn, 1) := by decide +kernel
theorem dX5_flaw_28 : decode mX5_flaw.2.1 28 = .ok (.aload 4, 2) := by decide +kernel
theorem dX5_flaw_30 : decode mX5_flaw.2.1 30 = .ok (.iload_n 2, 1) := by decide +kernel
theorem dX5_flaw_31 : decode mX5_flaw.2.1 31 = .ok (.iload_n 3, 1) := by decide +kernel
theorem dX5_flaw_32 : decode mX5_flaw.2.1 32 = .ok (.invokevirtual 204, 3) := by decide +kernel
theorem dX5_flaw_35 : decode mX5_flaw.2.1 35 = .ok (.ifCond .eq 6, 3) := by decide +kernel
theorem dX5_flaw_38 : decode mX5_flaw.2.1 38 = .ok (.bipush (-4), 2) := by decide +kernel
theorem dX5_flaw_40 : decode mX5_flaw.2.1 40 = .ok (.ireturn, 1) := by decide +kernel
theorem dX5_flaw_41 : decode mX5_flaw.2.1 41 = .ok (.aload 4, 2) := by decide +kernel
theorem dX5_flaw_43 : decode mX5_flaw.2.1 43 = .ok (.iload_n 2, 1) := by decide +kernel
theorem dX5_flaw_44 : decode mX5_flaw.2.1 44 = .ok (.iload_n 3, 1) := by decide +kernel
theorem dX5_flaw_45 : decode mX5_flaw.2.1 45 = .ok (.iconst 1, 1) := by decide +kernel
theorem dX5_flaw_46 : decode mX5_flaw.2.1 46 = .ok (.iconst 1, 1) := by decide +kernel
theorem dX5_flaw_47 : decode mX5_flaw.2.1 47 = .ok (.iconst 1, 1) := by decide +kernel
theorem dX5_flaw_48 : decode mX5_flaw.2.1 48 = .ok (.invokevirtual 207, 3) := by decide +kernel
theorem dX5_flaw_51 : decode mX5_flaw.2.1 51 = .ok (.iconst 1, 1) := by decide +kernel
theorem dX5_flaw_52 : decode mX5_flaw.2.1 52 = .ok (.ireturn, 1) := by decide +kernel
theorem dX5_cut_0 : decode mX5_cut.2.1 0 = .ok (.aload_n 0, 1) := by decide +kernel
theorem dX5_cut_1 : decode mX5_cut.2.1 1 = .ok (.iload_n 1, 1) := by decide +kernel
theorem dX5_cut_2 : decode mX5_cut.2.1 2 = .ok (.invokevirtual 198, 3) := by decide +kernel
theorem dX5_cut_5 : decode mX5_cut.2.1 5 = .ok (.astore 4, 2) := by decide +kernel
theorem dX5_cut_7 : decode mX5_cut.2.1 7 = .ok (.aload 4, 2) := by decide +kernel
theorem dX5_cut_9 : decode mX5_cut.2.1 9 = .ok (.ifnonnull 6, 3) := by decide +kernel
theorem dX5_cut_12 : decode mX5_cut.2.1 12 = .ok (.bipush (-2), 2) := by decide +kernel
theorem dX5_cut_14 : decode mX5_cut.2.1 14 = .ok (.ireturn, 1) := by decide +kernel
theorem dX5_cut_15 : decode mX5_cut.2.1 15 = .ok (.iload_n 2, 1) := by decide +kernel
theorem dX5_cut_16 : decode mX5_cut.2.1 16 = .ok (.iload_n 3, 1) := by decide +kernel
theorem dX5_cut_17 : decode mX5_cut.2.1 17 = .ok (.invokestatic 192, 3) := by decide +kernel
theorem dX5_cut_20 : decode mX5_cut.2.1 20 = .ok (.ifCond .ne 6, 3) := by decide +kernel
theorem dX5_cut_23 : decode mX5_cut.2.1 23 = .ok (.bipush (-3), 2) := by decide +kernel
theorem dX5_cut_25 : decode mX5_cut.2.1 25 = .ok (.ireturn, 1) := by decide +kernel
theorem dX5_cut_26 : decode mX5_cut.2.1 26 = .ok (.aload 4, 2) := by decide +kernel
theorem dX5_cut_28 : decode mX5_cut.2.1 28 = .ok (.iload_n 2, 1) := by decide +kernel
theorem dX5_cut_29 : decode mX5_cut.2.1 29 = .ok (.iload_n 3, 1) := by decide +kernel
theorem dX5_cut_30 : decode mX5_cut.2.1 30 = .ok (.invokevirtual 211, 3) := by decide +kernel
theorem dX5_cut_33 : decode mX5_cut.2.1 33 = .ok (.istore 5, 2) := by decide +kernel
theorem dX5_cut_35 : decode mX5_cut.2.1 35 = .ok (.iload 5, 2) := by decide +kernel
theorem dX5_cut_37 : decode mX5_cut.2.1 37 = .ok (.iconst (-1), 1) := by decide +kernel
theorem dX5_cut_38 : decode mX5_cut.2.1 38 = .ok (.if_icmp .ne 8, 3) := by decide +kernel
theorem dX5_cut_41 : decode mX5_cut.2.1 41 = .ok (.bipush (-4), 2) := by decide +kernel
theorem dX5_cut_43 : decode mX5_cut.2.1 43 = .ok (.goto 5, 3) := by decide +kernel
theorem dX5_cut_46 : decode mX5_cut.2.1 46 = .ok (.iload 5, 2) := by decide +kernel
theorem dX5_cut_48 : decode mX5_cut.2.1 48 = .ok (.ireturn, 1) := by decide +kernel
theorem dX5_covers_0 : decode mX5_covers.2.1 0 = .ok (.iload_n 1, 1) := by decide +kernel
theorem dX5_covers_1 : decode mX5_covers.2.1 1 = .ok (.iconst 0, 1) := by decide +kernel
theorem dX5_covers_2 : decode mX5_covers.2.1 2 = .ok (.bipush 9, 2) := by decide +kernel
theorem dX5_covers_4 : decode mX5_covers.2.1 4 = .ok (.invokestatic 57, 3) := by decide +kernel
theorem dX5_covers_7 : decode mX5_covers.2.1 7 = .ok (.ifCond .eq 22, 3) := by decide +kernel
theorem dX5_covers_10 : decode mX5_covers.2.1 10 = .ok (.iload_n 2, 1) := by decide +kernel
theorem dX5_covers_11 : decode mX5_covers.2.1 11 = .ok (.iload_n 3, 1) := by decide +kernel
theorem dX5_covers_12 : decode mX5_covers.2.1 12 = .ok (.invokestatic 192, 3) := by decide +kernel
theorem dX5_covers_15 : decode mX5_covers.2.1 15 = .ok (.ifCond .eq 14, 3) := by decide +kernel
theorem dX5_covers_18 : decode mX5_covers.2.1 18 = .ok (.iload 4, 2) := by decide +kernel
theorem dX5_covers_20 : decode mX5_covers.2.1 20 = .ok (.iconst 1, 1) := by decide +kernel
theorem dX5_covers_21 : decode mX5_covers.2.1 21 = .ok (.bipush 8, 2) := by decide +kernel
theorem dX5_covers_23 : decode mX5_covers.2.1 23 = .ok (.invokestatic 57, 3) := by decide +kernel
theorem dX5_covers_26 : decode mX5_covers.2.1 26 = .ok (.ifCond .ne 6, 3) := by decide +kernel
theorem dX5_covers_29 : decode mX5_covers.2.1 29 = .ok (.bipush (-3), 2) := by decide +kernel
theorem dX5_covers_31 : decode mX5_covers.2.1 31 = .ok (.ireturn, 1) := by decide +kernel
theorem dX5_covers_32 : decode mX5_covers.2.1 32 = .ok (.iload 4, 2) := by decide +kernel
theorem dX5_covers_34 : decode mX5_covers.2.1 34 = .ok (.istore 5, 2) := by decide +kernel
theorem dX5_covers_36 : decode mX5_covers.2.1 36 = .ok (.iconst 0, 1) := by decide +kernel
theorem dX5_covers_37 : decode mX5_covers.2.1 37 = .ok (.istore 6, 2) := by decide +kernel
theorem dX5_covers_39 : decode mX5_covers.2.1 39 = .ok (.iconst 0, 1) := by decide +kernel
theorem dX5_covers_40 : decode mX5_covers.2.1 40 = .ok (.istore 7, 2) := by decide +kernel
theorem dX5_covers_42 : decode mX5_covers.2.1 42 = .ok (.iload 7, 2) := by decide +kernel
theorem dX5_covers_44 : decode mX5_covers.2.1 44 = .ok (.aload_n 0, 1) := by decide +kernel
theorem dX5_covers_45 : decode mX5_covers.2.1 45 = .ok (.getfield 46, 3) := by decide +kernel
theorem dX5_covers_48 : decode mX5_covers.2.1 48 = .ok (.if_icmp .ge 64, 3) := by decide +kernel
theorem dX5_covers_51 : decode mX5_covers.2.1 51 = .ok (.aload_n 0, 1) := by decide +kernel
theorem dX5_covers_52 : decode mX5_covers.2.1 52 = .ok (.iload 7, 2) := by decide +kernel
theorem dX5_covers_54 : decode mX5_covers.2.1 54 = .ok (.invokevirtual 198, 3) := by decide +kernel
theorem dX5_covers_57 : decode mX5_covers.2.1 57 = .ok (.astore 8, 2) := by decide +kernel
theorem dX5_covers_59 : decode mX5_covers.2.1 59 = .ok (.aload 8, 2) := by decide +kernel
theorem dX5_covers_61 : decode mX5_covers.2.1 61 = .ok (.ifnull 45, 3) := by decide +kernel
theorem dX5_covers_64 : decode mX5_covers.2.1 64 = .ok (.aload 8, 2) := by decide +kernel
theorem dX5_covers_66 : decode mX5_covers.2.1 66 = .ok (.getfield 214, 3) := by decide +kernel
theorem dX5_covers_69 : decode mX5_covers.2.1 69 = .ok (.iload_n 1, 1) := by decide +kernel
theorem dX5_covers_70 : decode mX5_covers.2.1 70 = .ok (.if_icmp .ne 36, 3) := by decide +kernel
theorem dX5_covers_73 : decode mX5_covers.2.1 73 = .ok (.aload 8, 2) := by decide +kernel
theorem dX5_covers_75 : decode mX5_covers.2.1 75 = .ok (.iload_n 2, 1) := by decide +kernel
theorem dX5_covers_76 : decode mX5_covers.2.1 76 = .ok (.iload_n 3, 1) := by decide +kernel
theorem dX5_covers_77 : decode mX5_covers.2.1 77 = .ok (.iload 5, 2) := by decide +kernel
theorem dX5_covers_79 : decode mX5_covers.2.1 79 = .ok (.invokevirtual 217, 3) := by decide +kernel
theorem dX5_covers_82 : decode mX5_covers.2.1 82 = .ok (.istore 9, 2) := by decide +kernel
theorem dX5_covers_84 : decode mX5_covers.2.1 84 = .ok (.iload 5, 2) := by decide +kernel
theorem dX5_covers_86 : decode mX5_covers.2.1 86 = .ok (.iload 9, 2) := by decide +kernel
theorem dX5_covers_88 : decode mX5_covers.2.1 88 = .ok (.isub, 1) := by decide +kernel
theorem dX5_covers_89 : decode mX5_covers.2.1 89 = .ok (.istore 5, 2) := by decide +kernel
theorem dX5_covers_91 : decode mX5_covers.2.1 91 = .ok (.iload 6, 2) := by decide +kernel
theorem dX5_covers_93 : decode mX5_covers.2.1 93 = .ok (.iload 9, 2) := by decide +kernel
theorem dX5_covers_95 : decode mX5_covers.2.1 95 = .ok (.ifCond .le 7, 3) := by decide +kernel
theorem dX5_covers_98 : decode mX5_covers.2.1 98 = .ok (.iconst 1, 1) := by decide +kernel
theorem dX5_covers_99 : decode mX5_covers.2.1 99 = .ok (.goto 4, 3) := by decide +kernel
theorem dX5_covers_102 : decode mX5_covers.2.1 102 = .ok (.iconst 0, 1) := by decide +kernel
theorem dX5_covers_103 : decode mX5_covers.2.1 103 = .ok (.iadd, 1) := by decide +kernel
theorem dX5_covers_104 : decode mX5_covers.2.1 104 = .ok (.istore 6, 2) := by decide +kernel
theorem dX5_covers_106 : decode mX5_covers.2.1 106 = .ok (.iinc 7 1, 3) := by decide +kernel
theorem dX5_covers_109 : decode mX5_covers.2.1 109 = .ok (.goto (-67), 3) := by decide +kernel
theorem dX5_covers_112 : decode mX5_covers.2.1 112 = .ok (.iload 5, 2) := by decide +kernel
theorem dX5_covers_114 : decode mX5_covers.2.1 114 = .ok (.ifCond .le 11, 3) := by decide +kernel
theorem dX5_covers_117 : decode mX5_covers.2.1 117 = .ok (.aload_n 0, 1) := by decide +kernel
theorem dX5_covers_118 : decode mX5_covers.2.1 118 = .ok (.iload_n 1, 1) := by decide +kernel
theorem dX5_covers_119 : decode mX5_covers.2.1 119 = .ok (.invokevirtual 221, 3) := by decide +kernel
theorem dX5_covers_122 : decode mX5_covers.2.1 122 = .ok (.bipush (-4), 2) := by decide +kernel
theorem dX5_covers_124 : decode mX5_covers.2.1 124 = .ok (.ireturn, 1) := by decide +kernel
theorem dX5_covers_125 : decode mX5_covers.2.1 125 = .ok (.iload 6, 2) := by decide +kernel
theorem dX5_covers_127 : decode mX5_covers.2.1 127 = .ok (.ireturn, 1) := by decide +kernel
theorem dX5_spot_0 : decode mX5_spot.2.1 0 = .ok (.aload_n 0, 1) := by decide +kernel
theorem dX5_spot_1 : decode mX5_spot.2.1 1 = .ok (.iload_n 1, 1) := by decide +kernel
theorem dX5_spot_2 : decode mX5_spot.2.1 2 = .ok (.invokevirtual 198, 3) := by decide +kernel
theorem dX5_spot_5 : decode mX5_spot.2.1 5 = .ok (.astore 4, 2) := by decide +kernel
theorem dX5_spot_7 : decode mX5_spot.2.1 7 = .ok (.aload 4, 2) := by decide +kernel
theorem dX5_spot_9 : decode mX5_spot.2.1 9 = .ok (.ifnonnull 6, 3) := by decide +kernel
theorem dX5_spot_12 : decode mX5_spot.2.1 12 = .ok (.bipush (-2), 2) := by decide +kernel
theorem dX5_spot_14 : decode mX5_spot.2.1 14 = .ok (.ireturn, 1) := by decide +kernel
theorem dX5_spot_15 : decode mX5_spot.2.1 15 = .ok (.aload 4, 2) := by decide +kernel
theorem dX5_spot_17 : decode mX5_spot.2.1 17 = .ok (.iload_n 2, 1) := by decide +kernel
theorem dX5_spot_18 : decode mX5_spot.2.1 18 = .ok (.iload_n 3, 1) := by decide +kernel
theorem dX5_spot_19 : decode mX5_spot.2.1 19 = .ok (.invokevirtual 202, 3) := by decide +kernel
theorem dX5_spot_22 : decode mX5_spot.2.1 22 = .ok (.ifCond .ne 6, 3) := by decide +kernel
theorem dX5_spot_25 : decode mX5_spot.2.1 25 = .ok (.bipush (-3), 2) := by decide +kernel
theorem dX5_spot_27 : decode mX5_spot.2.1 27 = .ok (.ireturn, 1) := by decide +kernel
theorem dX5_spot_28 : decode mX5_spot.2.1 28 = .ok (.aload 4, 2) := by decide +kernel
theorem dX5_spot_30 : decode mX5_spot.2.1 30 = .ok (.iload_n 2, 1) := by decide +kernel
theorem dX5_spot_31 : decode mX5_spot.2.1 31 = .ok (.iload_n 3, 1) := by decide +kernel
theorem dX5_spot_32 : decode mX5_spot.2.1 32 = .ok (.invokevirtual 204, 3) := by decide +kernel
theorem dX5_spot_35 : decode mX5_spot.2.1 35 = .ok (.ireturn, 1) := by decide +kernel
theorem dX5_days_0 : decode mX5_days.2.1 0 = .ok (.iload_n 1, 1) := by decide +kernel
theorem dX5_days_1 : decode mX5_days.2.1 1 = .ok (.iconst 1, 1) := by decide +kernel
theorem dX5_days_2 : decode mX5_days.2.1 2 = .ok (.bipush 100, 2) := by decide +kernel
theorem dX5_days_4 : decode mX5_days.2.1 4 = .ok (.invokestatic 57, 3) := by decide +kernel
theorem dX5_days_7 : decode mX5_days.2.1 7 = .ok (.ifCond .eq 15, 3) := by decide +kernel
theorem dX5_days_10 : decode mX5_days.2.1 10 = .ok (.aload_n 0, 1) := by decide +kernel
theorem dX5_days_11 : decode mX5_days.2.1 11 = .ok (.getfield 49, 3) := by decide +kernel
theorem dX5_days_14 : decode mX5_days.2.1 14 = .ok (.iload_n 1, 1) := by decide +kernel
theorem dX5_days_15 : decode mX5_days.2.1 15 = .ok (.iadd, 1) := by decide +kernel
theorem dX5_days_16 : decode mX5_days.2.1 16 = .ok (.sipush 1000, 3) := by decide +kernel
theorem dX5_days_19 : decode mX5_days.2.1 19 = .ok (.if_icmp .le 6, 3) := by decide +kernel
theorem dX5_days_22 : decode mX5_days.2.1 22 = .ok (.bipush (-3), 2) := by decide +kernel
theorem dX5_days_24 : decode mX5_days.2.1 24 = .ok (.ireturn, 1) := by decide +kernel
theorem dX5_days_25 : decode mX5_days.2.1 25 = .ok (.aload_n 0, 1) := by decide +kernel
theorem dX5_days_26 : decode mX5_days.2.1 26 = .ok (.dup, 1) := by decide +kernel
theorem dX5_days_27 : decode mX5_days.2.1 27 = .ok (.getfield 49, 3) := by decide +kernel
theorem dX5_days_30 : decode mX5_days.2.1 30 = .ok (.iload_n 1, 1) := by decide +kernel
theorem dX5_days_31 : decode mX5_days.2.1 31 = .ok (.iadd, 1) := by decide +kernel
theorem dX5_days_32 : decode mX5_days.2.1 32 = .ok (.putfield 49, 3) := by decide +kernel
theorem dX5_days_35 : decode mX5_days.2.1 35 = .ok (.aload_n 0, 1) := by decide +kernel
theorem dX5_days_36 : decode mX5_days.2.1 36 = .ok (.getfield 49, 3) := by decide +kernel
theorem dX5_days_39 : decode mX5_days.2.1 39 = .ok (.ireturn, 1) := by decide +kernel
theorem dX5_rate_0 : decode mX5_rate.2.1 0 = .ok (.iload_n 1, 1) := by decide +kernel
theorem dX5_rate_1 : decode mX5_rate.2.1 1 = .ok (.invokestatic 105, 3) := by decide +kernel
theorem dX5_rate_4 : decode mX5_rate.2.1 4 = .ok (.ifCond .ne 6, 3) := by decide +kernel
theorem dX5_rate_7 : decode mX5_rate.2.1 7 = .ok (.bipush (-2), 2) := by decide +kernel
theorem dX5_rate_9 : decode mX5_rate.2.1 9 = .ok (.ireturn, 1) := by decide +kernel
theorem dX5_rate_10 : decode mX5_rate.2.1 10 = .ok (.iload_n 2, 1) := by decide +kernel
theorem dX5_rate_11 : decode mX5_rate.2.1 11 = .ok (.invokestatic 225, 3) := by decide +kernel
theorem dX5_rate_14 : decode mX5_rate.2.1 14 = .ok (.ifCond .eq 14, 3) := by decide +kernel
theorem dX5_rate_17 : decode mX5_rate.2.1 17 = .ok (.iload_n 3, 1) := by decide +kernel
theorem dX5_rate_18 : decode mX5_rate.2.1 18 = .ok (.iconst 0, 1) := by decide +kernel
theorem dX5_rate_19 : decode mX5_rate.2.1 19 = .ok (.sipush 500, 3) := by decide +kernel
theorem dX5_rate_22 : decode mX5_rate.2.1 22 = .ok (.invokestatic 57, 3) := by decide +kernel
theorem dX5_rate_25 : decode mX5_rate.2.1 25 = .ok (.ifCond .ne 6, 3) := by decide +kernel
theorem dX5_rate_28 : decode mX5_rate.2.1 28 = .ok (.bipush (-3), 2) := by decide +kernel
theorem dX5_rate_30 : decode mX5_rate.2.1 30 = .ok (.ireturn, 1) := by decide +kernel
theorem dX5_rate_31 : decode mX5_rate.2.1 31 = .ok (.aload_n 0, 1) := by decide +kernel
theorem dX5_rate_32 : decode mX5_rate.2.1 32 = .ok (.getfield 38, 3) := by decide +kernel
theorem dX5_rate_35 : decode mX5_rate.2.1 35 = .ok (.iload_n 1, 1) := by decide +kernel
theorem dX5_rate_36 : decode mX5_rate.2.1 36 = .ok (.iload_n 2, 1) := by decide +kernel
theorem dX5_rate_37 : decode mX5_rate.2.1 37 = .ok (.iload_n 3, 1) := by decide +kernel
theorem dX5_rate_38 : decode mX5_rate.2.1 38 = .ok (.aload_n 0, 1) := by decide +kernel
theorem dX5_rate_39 : decode mX5_rate.2.1 39 = .ok (.getfield 49, 3) := by decide +kernel
theorem dX5_rate_42 : decode mX5_rate.2.1 42 = .ok (.invokevirtual 228, 3) := by decide +kernel
theorem dX5_rate_45 : decode mX5_rate.2.1 45 = .ok (.ireturn, 1) := by decide +kernel
theorem dX5_rateAt_0 : decode mX5_rateAt.2.1 0 = .ok (.iload_n 1, 1) := by decide +kernel
theorem dX5_rateAt_1 : decode mX5_rateAt.2.1 1 = .ok (.invokestatic 105, 3) := by decide +kernel
theorem dX5_rateAt_4 : decode mX5_rateAt.2.1 4 = .ok (.ifCond .ne 6, 3) := by decide +kernel
theorem dX5_rateAt_7 : decode mX5_rateAt.2.1 7 = .ok (.bipush (-2), 2) := by decide +kernel
theorem dX5_rateAt_9 : decode mX5_rateAt.2.1 9 = .ok (.ireturn, 1) := by decide +kernel
theorem dX5_rateAt_10 : decode mX5_rateAt.2.1 10 = .ok (.iload_n 2, 1) := by decide +kernel
theorem dX5_rateAt_11 : decode mX5_rateAt.2.1 11 = .ok (.invokestatic 225, 3) := by decide +kernel
theorem dX5_rateAt_14 : decode mX5_rateAt.2.1 14 = .ok (.ifCond .eq 10, 3) := by decide +kernel
theorem dX5_rateAt_17 : decode mX5_rateAt.2.1 17 = .ok (.iload_n 3, 1) := by decide +kernel
theorem dX5_rateAt_18 : decode mX5_rateAt.2.1 18 = .ok (.invokestatic 225, 3) := by decide +kernel
theorem dX5_rateAt_21 : decode mX5_rateAt.2.1 21 = .ok (.ifCond .ne 6, 3) := by decide +kernel
theorem dX5_rateAt_24 : decode mX5_rateAt.2.1 24 = .ok (.bipush (-3), 2) := by decide +kernel
theorem dX5_rateAt_26 : decode mX5_rateAt.2.1 26 = .ok (.ireturn, 1) := by decide +kernel
theorem dX5_rateAt_27 : decode mX5_rateAt.2.1 27 = .ok (.aload_n 0, 1) := by decide +kernel
theorem dX5_rateAt_28 : decode mX5_rateAt.2.1 28 = .ok (.getfield 38, 3) := by decide +kernel
theorem dX5_rateAt_31 : decode mX5_rateAt.2.1 31 = .ok (.iload_n 1, 1) := by decide +kernel
theorem dX5_rateAt_32 : decode mX5_rateAt.2.1 32 = .ok (.iload_n 2, 1) := by decide +kernel
theorem dX5_rateAt_33 : decode mX5_rateAt.2.1 33 = .ok (.iload_n 3, 1) := by decide +kernel
theorem dX5_rateAt_34 : decode mX5_rateAt.2.1 34 = .ok (.invokevirtual 232, 3) := by decide +kernel
theorem dX5_rateAt_37 : decode mX5_rateAt.2.1 37 = .ok (.ireturn, 1) := by decide +kernel
theorem dX5_wages_0 : decode mX5_wages.2.1 0 = .ok (.iload_n 1, 1) := by decide +kernel
theorem dX5_wages_1 : decode mX5_wages.2.1 1 = .ok (.invokestatic 225, 3) := by decide +kernel
theorem dX5_wages_4 : decode mX5_wages.2.1 4 = .ok (.ifCond .eq 17, 3) := by decide +kernel
theorem dX5_wages_7 : decode mX5_wages.2.1 7 = .ok (.iload_n 2, 1) := by decide +kernel
theorem dX5_wages_8 : decode mX5_wages.2.1 8 = .ok (.invokestatic 225, 3) := by decide +kernel
theorem dX5_wages_11 : decode mX5_wages.2.1 11 = .ok (.ifCond .eq 10, 3) := by decide +kernel
theorem dX5_wages_14 : decode mX5_wages.2.1 14 = .ok (.iload_n 3, 1) := by decide +kernel
theorem dX5_wages_15 : decode mX5_wages.2.1 15 = .ok (.invokestatic 225, 3) := by decide +kernel
theorem dX5_wages_18 : decode mX5_wages.2.1 18 = .ok (.ifCond .ne 6, 3) := by decide +kernel
theorem dX5_wages_21 : decode mX5_wages.2.1 21 = .ok (.bipush (-3), 2) := by decide +kernel
theorem dX5_wages_23 : decode mX5_wages.2.1 23 = .ok (.ireturn, 1) := by decide +kernel
theorem dX5_wages_24 : decode mX5_wages.2.1 24 = .ok (.aload_n 0, 1) := by decide +kernel
theorem dX5_wages_25 : decode mX5_wages.2.1 25 = .ok (.getfield 38, 3) := by decide +kernel
theorem dX5_wages_28 : decode mX5_wages.2.1 28 = .ok (.iload_n 1, 1) := by decide +kernel
theorem dX5_wages_29 : decode mX5_wages.2.1 29 = .ok (.iload_n 2, 1) := by decide +kernel
theorem dX5_wages_30 : decode mX5_wages.2.1 30 = .ok (.iload_n 3, 1) := by decide +kernel
theorem dX5_wages_31 : decode mX5_wages.2.1 31 = .ok (.invokevirtual 235, 3) := by decide +kernel
theorem dX5_wages_34 : decode mX5_wages.2.1 34 = .ok (.ireturn, 1) := by decide +kernel
theorem dX5_count_0 : decode mX5_count.2.1 0 = .ok (.iload_n 1, 1) := by decide +kernel
theorem dX5_count_1 : decode mX5_count.2.1 1 = .ok (.tableswitch 90 0 6 #[43, 48, 53, 61, 66, 74, 82], 43) := by decide +kernel
theorem dX5_count_44 : decode mX5_count.2.1 44 = .ok (.aload_n 0, 1) := by decide +kernel
theorem dX5_count_45 : decode mX5_count.2.1 45 = .ok (.getfield 42, 3) := by decide +kernel
theorem dX5_count_48 : decode mX5_count.2.1 48 = .ok (.ireturn, 1) := by decide +kernel
theorem dX5_count_49 : decode mX5_count.2.1 49 = .ok (.aload_n 0, 1) := by decide +kernel
theorem dX5_count_50 : decode mX5_count.2.1 50 = .ok (.getfield 46, 3) := by decide +kernel
theorem dX5_count_53 : decode mX5_count.2.1 53 = .ok (.ireturn, 1) := by decide +kernel
theorem dX5_count_54 : decode mX5_count.2.1 54 = .ok (.aload_n 0, 1) := by decide +kernel
theorem dX5_count_55 : decode mX5_count.2.1 55 = .ok (.getfield 38, 3) := by decide +kernel
theorem dX5_count_58 : decode mX5_count.2.1 58 = .ok (.getfield 238, 3) := by decide +kernel
theorem dX5_count_61 : decode mX5_count.2.1 61 = .ok (.ireturn, 1) := by decide +kernel
theorem dX5_count_62 : decode mX5_count.2.1 62 = .ok (.aload_n 0, 1) := by decide +kernel
theorem dX5_count_63 : decode mX5_count.2.1 63 = .ok (.getfield 49, 3) := by decide +kernel
theorem dX5_count_66 : decode mX5_count.2.1 66 = .ok (.ireturn, 1) := by decide +kernel
theorem dX5_count_67 : decode mX5_count.2.1 67 = .ok (.aload_n 0, 1) := by decide +kernel
theorem dX5_count_68 : decode mX5_count.2.1 68 = .ok (.getfield 25, 3) := by decide +kernel
theorem dX5_count_71 : decode mX5_count.2.1 71 = .ok (.getfield 165, 3) := by decide +kernel
theorem dX5_count_74 : decode mX5_count.2.1 74 = .ok (.ireturn, 1) := by decide +kernel
theorem dX5_count_75 : decode mX5_count.2.1 75 = .ok (.aload_n 0, 1) := by decide +kernel
theorem dX5_count_76 : decode mX5_count.2.1 76 = .ok (.getfield 25, 3) := by decide +kernel
theorem dX5_count_79 : decode mX5_count.2.1 79 = .ok (.invokevirtual 241, 3) := by decide +kernel
theorem dX5_count_82 : decode mX5_count.2.1 82 = .ok (.ireturn, 1) := by decide +kernel
theorem dX5_count_83 : decode mX5_count.2.1 83 = .ok (.aload_n 0, 1) := by decide +kernel
theorem dX5_count_84 : decode mX5_count.2.1 84 = .ok (.getfield 38, 3) := by decide +kernel
theorem dX5_count_87 : decode mX5_count.2.1 87 = .ok (.getfield 244, 3) := by decide +kernel
theorem dX5_count_90 : decode mX5_count.2.1 90 = .ok (.ireturn, 1) := by decide +kernel
theorem dX5_count_91 : decode mX5_count.2.1 91 = .ok (.bipush (-3), 2) := by decide +kernel
theorem dX5_count_93 : decode mX5_count.2.1 93 = .ok (.ireturn, 1) := by decide +kernel
theorem dX5_within_0 : decode mX5_within.2.1 0 = .ok (.iload_n 0, 1) := by decide +kernel
theorem dX5_within_1 : decode mX5_within.2.1 1 = .ok (.iload_n 1, 1) := by decide +kernel
theorem dX5_within_2 : decode mX5_within.2.1 2 = .ok (.if_icmp .lt 12, 3) := by decide +kernel
theorem dX5_within_5 : decode mX5_within.2.1 5 = .ok (.iload_n 0, 1) := by decide +kernel
theorem dX5_within_6 : decode mX5_within.2.1 6 = .ok (.iload_n 2, 1) := by decide +kernel
theorem dX5_within_7 : decode mX5_within.2.1 7 = .ok (.if_icmp .gt 7, 3) := by decide +kernel
theorem dX5_within_10 : decode mX5_within.2.1 10 = .ok (.iconst 1, 1) := by decide +kernel
theorem dX5_within_11 : decode mX5_within.2.1 11 = .ok (.goto 4, 3) := by decide +kernel
theorem dX5_within_14 : decode mX5_within.2.1 14 = .ok (.iconst 0, 1) := by decide +kernel
theorem dX5_within_15 : decode mX5_within.2.1 15 = .ok (.ireturn, 1) := by decide +kernel
theorem dX5_isBench_0 : decode mX5_isBench.2.1 0 = .ok (.iload_n 0, 1) := by decide +kernel
theorem dX5_isBench_1 : decode mX5_isBench.2.1 1 = .ok (.iconst 0, 1) := by decide +kernel
theorem dX5_isBench_2 : decode mX5_isBench.2.1 2 = .ok (.iconst 4, 1) := by decide +kernel
theorem dX5_isBench_3 : decode mX5_isBench.2.1 3 = .ok (.invokestatic 57, 3) := by decide +kernel
theorem dX5_isBench_6 : decode mX5_isBench.2.1 6 = .ok (.ireturn, 1) := by decide +kernel
theorem dX5_isSign_0 : decode mX5_isSign.2.1 0 = .ok (.iload_n 0, 1) := by decide +kernel
theorem dX5_isSign_1 : decode mX5_isSign.2.1 1 = .ok (.iconst 0, 1) := by decide +kernel
theorem dX5_isSign_2 : decode mX5_isSign.2.1 2 = .ok (.bipush 26, 2) := by decide +kernel
theorem dX5_isSign_4 : decode mX5_isSign.2.1 4 = .ok (.invokestatic 57, 3) := by decide +kernel
theorem dX5_isSign_7 : decode mX5_isSign.2.1 7 = .ok (.ireturn, 1) := by decide +kernel
theorem dX5_isSize_0 : decode mX5_isSize.2.1 0 = .ok (.iload_n 0, 1) := by decide +kernel
theorem dX5_isSize_1 : decode mX5_isSize.2.1 1 = .ok (.iconst 1, 1) := by decide +kernel
theorem dX5_isSize_2 : decode mX5_isSize.2.1 2 = .ok (.bipush 12, 2) := by decide +kernel
theorem dX5_isSize_4 : decode mX5_isSize.2.1 4 = .ok (.invokestatic 57, 3) := by decide +kernel
theorem dX5_isSize_7 : decode mX5_isSize.2.1 7 = .ok (.ifCond .eq 17, 3) := by decide +kernel
theorem dX5_isSize_10 : decode mX5_isSize.2.1 10 = .ok (.iload_n 1, 1) := by decide +kernel
theorem dX5_isSize_11 : decode mX5_isSize.2.1 11 = .ok (.iconst 1, 1) := by decide +kernel
theorem dX5_isSize_12 : decode mX5_isSize.2.1 12 = .ok (.bipush 12, 2) := by decide +kernel
theorem dX5_isSize_14 : decode mX5_isSize.2.1 14 = .ok (.invokestatic 57, 3) := by decide +kernel
theorem dX5_isSize_17 : decode mX5_isSize.2.1 17 = .ok (.ifCond .eq 7, 3) := by decide +kernel
theorem dX5_isSize_20 : decode mX5_isSize.2.1 20 = .ok (.iconst 1, 1) := by decide +kernel
theorem dX5_isSize_21 : decode mX5_isSize.2.1 21 = .ok (.goto 4, 3) := by decide +kernel
theorem dX5_isSize_24 : decode mX5_isSize.2.1 24 = .ok (.iconst 0, 1) := by decide +kernel
theorem dX5_isSize_25 : decode mX5_isSize.2.1 25 = .ok (.ireturn, 1) := by decide +kernel
theorem dX5_isDay_0 : decode mX5_isDay.2.1 0 = .ok (.iload_n 0, 1) := by decide +kernel
theorem dX5_isDay_1 : decode mX5_isDay.2.1 1 = .ok (.iconst 0, 1) := by decide +kernel
theorem dX5_isDay_2 : decode mX5_isDay.2.1 2 = .ok (.sipush 1000, 3) := by decide +kernel
theorem dX5_isDay_5 : decode mX5_isDay.2.1 5 = .ok (.invokestatic 57, 3) := by decide +kernel
theorem dX5_isDay_8 : decode mX5_isDay.2.1 8 = .ok (.ireturn, 1) := by decide +kernel
theorem dX5_bookAt_0 : decode mX5_bookAt.2.1 0 = .ok (.iload_n 1, 1) := by decide +kernel
theorem dX5_bookAt_1 : decode mX5_bookAt.2.1 1 = .ok (.iconst 0, 1) := by decide +kernel
theorem dX5_bookAt_2 : decode mX5_bookAt.2.1 2 = .ok (.aload_n 0, 1) := by decide +kernel
theorem dX5_bookAt_3 : decode mX5_bookAt.2.1 3 = .ok (.getfield 42, 3) := by decide +kernel
theorem dX5_bookAt_6 : decode mX5_bookAt.2.1 6 = .ok (.iconst 1, 1) := by decide +kernel
theorem dX5_bookAt_7 : decode mX5_bookAt.2.1 7 = .ok (.isub, 1) := by decide +kernel
theorem dX5_bookAt_8 : decode mX5_bookAt.2.1 8 = .ok (.invokestatic 57, 3) := by decide +kernel
theorem dX5_bookAt_11 : decode mX5_bookAt.2.1 11 = .ok (.ifCond .eq 12, 3) := by decide +kernel
theorem dX5_bookAt_14 : decode mX5_bookAt.2.1 14 = .ok (.aload_n 0, 1) := by decide +kernel
theorem dX5_bookAt_15 : decode mX5_bookAt.2.1 15 = .ok (.getfield 11, 3) := by decide +kernel
theorem dX5_bookAt_18 : decode mX5_bookAt.2.1 18 = .ok (.iload_n 1, 1) := by decide +kernel
theorem dX5_bookAt_19 : decode mX5_bookAt.2.1 19 = .ok (.aaload, 1) := by decide +kernel
theorem dX5_bookAt_20 : decode mX5_bookAt.2.1 20 = .ok (.goto 4, 3) := by decide +kernel
theorem dX5_bookAt_23 : decode mX5_bookAt.2.1 23 = .ok (.aconst_null, 1) := by decide +kernel
theorem dX5_bookAt_24 : decode mX5_bookAt.2.1 24 = .ok (.areturn, 1) := by decide +kernel
theorem dX5_skinAt_0 : decode mX5_skinAt.2.1 0 = .ok (.iload_n 1, 1) := by decide +kernel
theorem dX5_skinAt_1 : decode mX5_skinAt.2.1 1 = .ok (.iconst 0, 1) := by decide +kernel
theorem dX5_skinAt_2 : decode mX5_skinAt.2.1 2 = .ok (.aload_n 0, 1) := by decide +kernel
theorem dX5_skinAt_3 : decode mX5_skinAt.2.1 3 = .ok (.getfield 46, 3) := by decide +kernel
theorem dX5_skinAt_6 : decode mX5_skinAt.2.1 6 = .ok (.iconst 1, 1) := by decide +kernel
theorem dX5_skinAt_7 : decode mX5_skinAt.2.1 7 = .ok (.isub, 1) := by decide +kernel
theorem dX5_skinAt_8 : decode mX5_skinAt.2.1 8 = .ok (.invokestatic 57, 3) := by decide +kernel
theorem dX5_skinAt_11 : decode mX5_skinAt.2.1 11 = .ok (.ifCond .eq 12, 3) := by decide +kernel
theorem dX5_skinAt_14 : decode mX5_skinAt.2.1 14 = .ok (.aload_n 0, 1) := by decide +kernel
theorem dX5_skinAt_15 : decode mX5_skinAt.2.1 15 = .ok (.getfield 31, 3) := by decide +kernel
theorem dX5_skinAt_18 : decode mX5_skinAt.2.1 18 = .ok (.iload_n 1, 1) := by decide +kernel
theorem dX5_skinAt_19 : decode mX5_skinAt.2.1 19 = .ok (.aaload, 1) := by decide +kernel
theorem dX5_skinAt_20 : decode mX5_skinAt.2.1 20 = .ok (.goto 4, 3) := by decide +kernel
theorem dX5_skinAt_23 : decode mX5_skinAt.2.1 23 = .ok (.aconst_null, 1) := by decide +kernel
theorem dX5_skinAt_24 : decode mX5_skinAt.2.1 24 = .ok (.areturn, 1) := by decide +kernel
theorem dX5_takeBackAlike_0 : decode mX5_takeBackAlike.2.1 0 = .ok (.iconst 0, 1) := by decide +kernel
theorem dX5_takeBackAlike_1 : decode mX5_takeBackAlike.2.1 1 = .ok (.istore_n 2, 1) := by decide +kernel
theorem dX5_takeBackAlike_2 : decode mX5_takeBackAlike.2.1 2 = .ok (.iload_n 2, 1) := by decide +kernel
theorem dX5_takeBackAlike_3 : decode mX5_takeBackAlike.2.1 3 = .ok (.aload_n 0, 1) := by decide +kernel
theorem dX5_takeBackAlike_4 : decode mX5_takeBackAlike.2.1 4 = .ok (.getfield 46, 3) := by decide +kernel
theorem dX5_takeBackAlike_7 : decode mX5_takeBackAlike.2.1 7 = .ok (.if_icmp .ge 31, 3) := by decide +kernel
theorem dX5_takeBackAlike_10 : decode mX5_takeBackAlike.2.1 10 = .ok (.aload_n 0, 1) := by decide +kernel
theorem dX5_takeBackAlike_11 : decode mX5_takeBackAlike.2.1 11 = .ok (.iload_n 2, 1) := by decide +kernel
theorem dX5_takeBackAlike_12 : decode mX5_takeBackAlike.2.1 12 = .ok (.invokevirtual 198, 3) := by decide +kernel
theorem dX5_takeBackAlike_15 : decode mX5_takeBackAlike.2.1 15 = .ok (.astore_n 3, 1) := by decide +kernel
theorem dX5_takeBackAlike_16 : decode mX5_takeBackAlike.2.1 16 = .ok (.aload_n 3, 1) := by decide +kernel
theorem dX5_takeBackAlike_17 : decode mX5_takeBackAlike.2.1 17 = .ok (.ifnull 15, 3) := by decide +kernel
theorem dX5_takeBackAlike_20 : decode mX5_takeBackAlike.2.1 20 = .ok (.aload_n 3, 1) := by decide +kernel
theorem dX5_takeBackAlike_21 : decode mX5_takeBackAlike.2.1 21 = .ok (.getfield 214, 3) := by decide +kernel
theorem dX5_takeBackAlike_24 : decode mX5_takeBackAlike.2.1 24 = .ok (.iload_n 1, 1) := by decide +kernel
theorem dX5_takeBackAlike_25 : decode mX5_takeBackAlike.2.1 25 = .ok (.if_icmp .ne 7, 3) := by decide +kernel
theorem dX5_takeBackAlike_28 : decode mX5_takeBackAlike.2.1 28 = .ok (.aload_n 3, 1) := by decide +kernel
theorem dX5_takeBackAlike_29 : decode mX5_takeBackAlike.2.1 29 = .ok (.invokevirtual 247, 3) := by decide +kernel
theorem dX5_takeBackAlike_32 : decode mX5_takeBackAlike.2.1 32 = .ok (.iinc 2 1, 3) := by decide +kernel
theorem dX5_takeBackAlike_35 : decode mX5_takeBackAlike.2.1 35 = .ok (.goto (-33), 3) := by decide +kernel
theorem dX5_takeBackAlike_38 : decode mX5_takeBackAlike.2.1 38 = .ok (.return_, 1) := by decide +kernel
end
section
theorem dX4_init_0 : decode mX4_init.2.1 0 = .ok (.aload_n 0, 1) := by decide +kernel
theorem dX4_init_1 : decode mX4_init.2.1 1 = .ok (.invokespecial 3, 3) := by decide +kernel
theorem dX4_init_4 : decode mX4_init.2.1 4 = .ok (.aload_n 0, 1) := by decide +kernel
theorem dX4_init_5 : decode mX4_init.2.1 5 = .ok (.bipush 27, 2) := by decide +kernel
theorem dX4_init_7 : decode mX4_init.2.1 7 = .ok (.newarray .int, 2) := by decide +kernel
theorem dX4_init_9 : decode mX4_init.2.1 9 = .ok (.putfield 9, 3) := by decide +kernel
theorem dX4_init_12 : decode mX4_init.2.1 12 = .ok (.aload_n 0, 1) := by decide +kernel
theorem dX4_init_13 : decode mX4_init.2.1 13 = .ok (.bipush 27, 2) := by decide +kernel
theorem dX4_init_15 : decode mX4_init.2.1 15 = .ok (.newarray .int, 2) := by decide +kernel
theorem dX4_init_17 : decode mX4_init.2.1 17 = .ok (.putfield 15, 3) := by decide +kernel
theorem dX4_init_20 : decode mX4_init.2.1 20 = .ok (.aload_n 0, 1) := by decide +kernel
theorem dX4_init_21 : decode mX4_init.2.1 21 = .ok (.bipush 6, 2) := by decide +kernel
theorem dX4_init_23 : decode mX4_init.2.1 23 = .ok (.newarray .int, 2) := by decide +kernel
theorem dX4_init_25 : decode mX4_init.2.1 25 = .ok (.putfield 18, 3) := by decide +kernel
theorem dX4_init_28 : decode mX4_init.2.1 28 = .ok (.aload_n 0, 1) := by decide +kernel
theorem dX4_init_29 : decode mX4_init.2.1 29 = .ok (.iconst 0, 1) := by decide +kernel
theorem dX4_init_30 : decode mX4_init.2.1 30 = .ok (.putfield 21, 3) := by decide +kernel
theorem dX4_init_33 : decode mX4_init.2.1 33 = .ok (.aload_n 0, 1) := by decide +kernel
theorem dX4_init_34 : decode mX4_init.2.1 34 = .ok (.iconst 0, 1) := by decide +kernel
theorem dX4_init_35 : decode mX4_init.2.1 35 = .ok (.putfield 25, 3) := by decide +kernel
theorem dX4_init_38 : decode mX4_init.2.1 38 = .ok (.aload_n 0, 1) := by decide +kernel
theorem dX4_init_39 : decode mX4_init.2.1 39 = .ok (.bipush 100, 2) := by decide +kernel
theorem dX4_init_41 : decode mX4_init.2.1 41 = .ok (.putfield 28, 3) := by decide +kernel
theorem dX4_init_44 : decode mX4_init.2.1 44 = .ok (.aload_n 0, 1) := by decide +kernel
theorem dX4_init_45 : decode mX4_init.2.1 45 = .ok (.bipush 40, 2) := by decide +kernel
theorem dX4_init_47 : decode mX4_init.2.1 47 = .ok (.newarray .int, 2) := by decide +kernel
theorem dX4_init_49 : decode mX4_init.2.1 49 = .ok (.putfield 31, 3) := by decide +kernel
theorem dX4_init_52 : decode mX4_init.2.1 52 = .ok (.aload_n 0, 1) := by decide +kernel
theorem dX4_init_53 : decode mX4_init.2.1 53 = .ok (.bipush 27, 2) := by decide +kernel
theorem dX4_init_55 : decode mX4_init.2.1 55 = .ok (.newarray .int, 2) := by decide +kernel
theorem dX4_init_57 : decode mX4_init.2.1 57 = .ok (.putfield 34, 3) := by decide +kernel
theorem dX4_init_60 : decode mX4_init.2.1 60 = .ok (.aload_n 0, 1) := by decide +kernel
theorem dX4_init_61 : decode mX4_init.2.1 61 = .ok (.bipush 20, 2) := by decide +kernel
theorem dX4_init_63 : decode mX4_init.2.1 63 = .ok (.newarray .int, 2) := by decide +kernel
theorem dX4_init_65 : decode mX4_init.2.1 65 = .ok (.putfield 37, 3) := by decide +kernel
theorem dX4_init_68 : decode mX4_init.2.1 68 = .ok (.aload_n 0, 1) := by decide +kernel
theorem dX4_init_69 : decode mX4_init.2.1 69 = .ok (.sipush 147, 3) := by decide +kernel
theorem dX4_init_72 : decode mX4_init.2.1 72 = .ok (.newarray .int, 2) := by decide +kernel
theorem dX4_init_74 : decode mX4_init.2.1 74 = .ok (.putfield 40, 3) := by decide +kernel
theorem dX4_init_77 : decode mX4_init.2.1 77 = .ok (.aload_n 0, 1) := by decide +kernel
theorem dX4_init_78 : decode mX4_init.2.1 78 = .ok (.sipush 147, 3) := by decide +kernel
theorem dX4_init_81 : decode mX4_init.2.1 81 = .ok (.newarray .int, 2) := by decide +kernel
theorem dX4_init_83 : decode mX4_init.2.1 83 = .ok (.putfield 43, 3) := by decide +kernel
theorem dX4_init_86 : decode mX4_init.2.1 86 = .ok (.aload_n 0, 1) := by decide +kernel
theorem dX4_init_87 : decode mX4_init.2.1 87 = .ok (.iconst 0, 1) := by decide +kernel
theorem dX4_init_88 : decode mX4_init.2.1 88 = .ok (.putfield 46, 3) := by decide +kernel
theorem dX4_init_91 : decode mX4_init.2.1 91 = .ok (.aload_n 0, 1) := by decide +kernel
theorem dX4_init_92 : decode mX4_init.2.1 92 = .ok (.getfield 9, 3) := by decide +kernel
theorem dX4_init_95 : decode mX4_init.2.1 95 = .ok (.iconst 0, 1) := by decide +kernel
theorem dX4_init_96 : decode mX4_init.2.1 96 = .ok (.iconst 3, 1) := by decide +kernel
theorem dX4_init_97 : decode mX4_init.2.1 97 = .ok (.iastore, 1) := by decide +kernel
theorem dX4_init_98 : decode mX4_init.2.1 98 = .ok (.iconst 1, 1) := by decide +kernel
theorem dX4_init_99 : decode mX4_init.2.1 99 = .ok (.istore_n 1, 1) := by decide +kernel
theorem dX4_init_100 : decode mX4_init.2.1 100 = .ok (.iload_n 1, 1) := by decide +kernel
theorem dX4_init_101 : decode mX4_init.2.1 101 = .ok (.bipush 26, 2) := by decide +kernel
theorem dX4_init_103 : decode mX4_init.2.1 103 = .ok (.if_icmp .gt 16, 3) := by decide +kernel
theorem dX4_init_106 : decode mX4_init.2.1 106 = .ok (.aload_n 0, 1) := by decide +kernel
theorem dX4_init_107 : decode mX4_init.2.1 107 = .ok (.getfield 9, 3) := by decide +kernel
theorem dX4_init_110 : decode mX4_init.2.1 110 = .ok (.iload_n 1, 1) := by decide +kernel
theorem dX4_init_111 : decode mX4_init.2.1 111 = .ok (.iconst 5, 1) := by decide +kernel
theorem dX4_init_112 : decode mX4_init.2.1 112 = .ok (.iastore, 1) := by decide +kernel
theorem dX4_init_113 : decode mX4_init.2.1 113 = .ok (.iinc 1 1, 3) := by decide +kernel
theorem dX4_init_116 : decode mX4_init.2.1 116 = .ok (.goto (-16), 3) := by decide +kernel
theorem dX4_init_119 : decode mX4_init.2.1 119 = .ok (.return_, 1) := by decide +kernel
theorem dX4_addSign_0 : decode mX4_addSign.2.1 0 = .ok (.aload_n 0, 1) := by decide +kernel
theorem dX4_addSign_1 : decode mX4_addSign.2.1 1 = .ok (.getfield 21, 3) := by decide +kernel
theorem dX4_addSign_4 : decode mX4_addSign.2.1 4 = .ok (.bipush 40, 2) := by decide +kernel
theorem dX4_addSign_6 : decode mX4_addSign.2.1 6 = .ok (.if_icmp .lt 6, 3) := by decide +kernel
theorem dX4_addSign_9 : decode mX4_addSign.2.1 9 = .ok (.bipush (-6), 2) := by decide +kernel
theorem dX4_addSign_11 : decode mX4_addSign.2.1 11 = .ok (.ireturn, 1) := by decide +kernel
theorem dX4_addSign_12 : decode mX4_addSign.2.1 12 = .ok (.aload_n 0, 1) := by decide +kernel
theorem dX4_addSign_13 : decode mX4_addSign.2.1 13 = .ok (.getfield 31, 3) := by decide +kernel
theorem dX4_addSign_16 : decode mX4_addSign.2.1 16 = .ok (.aload_n 0, 1) := by decide +kernel
theorem dX4_addSign_17 : decode mX4_addSign.2.1 17 = .ok (.getfield 21, 3) := by decide +kernel
theorem dX4_addSign_20 : decode mX4_addSign.2.1 20 = .ok (.iload_n 1, 1) := by decide +kernel
theorem dX4_addSign_21 : decode mX4_addSign.2.1 21 = .ok (.iastore, 1) := by decide +kernel
theorem dX4_addSign_22 : decode mX4_addSign.2.1 22 = .ok (.aload_n 0, 1) := by decide +kernel
theorem dX4_addSign_23 : decode mX4_addSign.2.1 23 = .ok (.dup, 1) := by decide +kernel
theorem dX4_addSign_24 : decode mX4_addSign.2.1 24 = .ok (.getfield 21, 3) := by decide +kernel
theorem dX4_addSign_27 : decode mX4_addSign.2.1 27 = .ok (.iconst 1, 1) := by decide +kernel
theorem dX4_addSign_28 : decode mX4_addSign.2.1 28 = .ok (.iadd, 1) := by decide +kernel
theorem dX4_addSign_29 : decode mX4_addSign.2.1 29 = .ok (.putfield 21, 3) := by decide +kernel
theorem dX4_addSign_32 : decode mX4_addSign.2.1 32 = .ok (.aload_n 0, 1) := by decide +kernel
theorem dX4_addSign_33 : decode mX4_addSign.2.1 33 = .ok (.getfield 21, 3) := by decide +kernel
theorem dX4_addSign_36 : decode mX4_addSign.2.1 36 = .ok (.ireturn, 1) := by decide +kernel
theorem dX4_readWords_0 : decode mX4_readWords.2.1 0 = .ok (.aload_n 0, 1) := by decide +kernel
theorem dX4_readWords_1 : decode mX4_readWords.2.1 1 = .ok (.iconst 0, 1) := by decide +kernel
theorem dX4_readWords_2 : decode mX4_readWords.2.1 2 = .ok (.putfield 46, 3) := by decide +kernel
theorem dX4_readWords_5 : decode mX4_readWords.2.1 5 = .ok (.iconst 0, 1) := by decide +kernel
theorem dX4_readWords_6 : decode mX4_readWords.2.1 6 = .ok (.istore_n 1, 1) := by decide +kernel
theorem dX4_readWords_7 : decode mX4_readWords.2.1 7 = .ok (.iconst 0, 1) := by decide +kernel
theorem dX4_readWords_8 : decode mX4_readWords.2.1 8 = .ok (.istore_n 2, 1) := by decide +kernel
theorem dX4_readWords_9 : decode mX4_readWords.2.1 9 = .ok (.iload_n 2, 1) := by decide +kernel
theorem dX4_readWords_10 : decode mX4_readWords.2.1 10 = .ok (.aload_n 0, 1) := by decide +kernel
theorem dX4_readWords_11 : decode mX4_readWords.2.1 11 = .ok (.getfield 21, 3) := by decide +kernel
theorem dX4_readWords_14 : decode mX4_readWords.2.1 14 = .ok (.if_icmp .ge 94, 3) := by decide +kernel
theorem dX4_readWords_17 : decode mX4_readWords.2.1 17 = .ok (.aload_n 0, 1) := by decide +kernel
theorem dX4_readWords_18 : decode mX4_readWords.2.1 18 = .ok (.getfield 31, 3) := by decide +kernel
theorem dX4_readWords_21 : decode mX4_readWords.2.1 21 = .ok (.iload_n 2, 1) := by decide +kernel
theorem dX4_readWords_22 : decode mX4_readWords.2.1 22 = .ok (.iaload, 1) := by decide +kernel
theorem dX4_readWords_23 : decode mX4_readWords.2.1 23 = .ok (.istore_n 3, 1) := by decide +kernel
theorem dX4_readWords_24 : decode mX4_readWords.2.1 24 = .ok (.iload_n 3, 1) := by decide +kernel
theorem dX4_readWords_25 : decode mX4_readWords.2.1 25 = .ok (.ifCond .eq 36, 3) := by decide +kernel
theorem dX4_readWords_28 : decode mX4_readWords.2.1 28 = .ok (.iload_n 1, 1) := by decide +kernel
theorem dX4_readWords_29 : decode mX4_readWords.2.1 29 = .ok (.ifCond .ne 32, 3) := by decide +kernel
theorem dX4_readWords_32 : decode mX4_readWords.2.1 32 = .ok (.aload_n 0, 1) := by decide +kernel
theorem dX4_readWords_33 : decode mX4_readWords.2.1 33 = .ok (.getfield 46, 3) := by decide +kernel
theorem dX4_readWords_36 : decode mX4_readWords.2.1 36 = .ok (.bipush 20, 2) := by decide +kernel
theorem dX4_readWords_38 : decode mX4_readWords.2.1 38 = .ok (.if_icmp .ge 23, 3) := by decide +kernel
theorem dX4_readWords_41 : decode mX4_readWords.2.1 41 = .ok (.aload_n 0, 1) := by decide +kernel
theorem dX4_readWords_42 : decode mX4_readWords.2.1 42 = .ok (.getfield 37, 3) := by decide +kernel
theorem dX4_readWords_45 : decode mX4_readWords.2.1 45 = .ok (.aload_n 0, 1) := by decide +kernel
theorem dX4_readWords_46 : decode mX4_readWords.2.1 46 = .ok (.getfield 46, 3) := by decide +kernel
theorem dX4_readWords_49 : decode mX4_readWords.2.1 49 = .ok (.iconst 0, 1) := by decide +kernel
theorem dX4_readWords_50 : decode mX4_readWords.2.1 50 = .ok (.iastore, 1) := by decide +kernel
theorem dX4_readWords_51 : decode mX4_readWords.2.1 51 = .ok (.aload_n 0, 1) := by decide +kernel
theorem dX4_readWords_52 : decode mX4_readWords.2.1 52 = .ok (.dup, 1) := by decide +kernel
theorem dX4_readWords_53 : decode mX4_readWords.2.1 53 = .ok (.getfield 46, 3) := by decide +kernel
theorem dX4_readWords_56 : decode mX4_readWords.2.1 56 = .ok (.iconst 1, 1) := by decide +kernel
theorem dX4_readWords_57 : decode mX4_readWords.2.1 57 = .ok (.iadd, 1) := by decide +kernel
theorem dX4_readWords_58 : decode mX4_readWords.2.1 58 = .ok (.putfield 46, 3) := by decide +kernel
theorem dX4_readWords_61 : decode mX4_readWords.2.1 61 = .ok (.iload_n 3, 1) := by decide +kernel
theorem dX4_readWords_62 : decode mX4_readWords.2.1 62 = .ok (.ifCond .eq 7, 3) := by decide +kernel
theorem dX4_readWords_65 : decode mX4_readWords.2.1 65 = .ok (.iconst 1, 1) := by decide +kernel
theorem dX4_readWords_66 : decode mX4_readWords.2.1 66 = .ok (.goto 4, 3) := by decide +kernel
theorem dX4_readWords_69 : decode mX4_readWords.2.1 69 = .ok (.iconst 0, 1) := by decide +kernel
theorem dX4_readWords_70 : decode mX4_readWords.2.1 70 = .ok (.istore_n 1, 1) := by decide +kernel
theorem dX4_readWords_71 : decode mX4_readWords.2.1 71 = .ok (.iload_n 1, 1) := by decide +kernel
theorem dX4_readWords_72 : decode mX4_readWords.2.1 72 = .ok (.ifCond .eq 30, 3) := by decide +kernel
theorem dX4_readWords_75 : decode mX4_readWords.2.1 75 = .ok (.aload_n 0, 1) := by decide +kernel
theorem dX4_readWords_76 : decode mX4_readWords.2.1 76 = .ok (.getfield 46, 3) := by decide +kernel
theorem dX4_readWords_79 : decode mX4_readWords.2.1 79 = .ok (.ifCond .le 23, 3) := by decide +kernel
theorem dX4_readWords_82 : decode mX4_readWords.2.1 82 = .ok (.aload_n 0, 1) := by decide +kernel
theorem dX4_readWords_83 : decode mX4_readWords.2.1 83 = .ok (.getfield 37, 3) := by decide +kernel
theorem dX4_readWords_86 : decode mX4_readWords.2.1 86 = .ok (.aload_n 0, 1) := by decide +kernel
theorem dX4_readWords_87 : decode mX4_readWords.2.1 87 = .ok (.getfield 46, 3) := by decide +kernel
theorem dX4_readWords_90 : decode mX4_readWords.2.1 90 = .ok (.iconst 1, 1) := by decide +kernel
theorem dX4_readWords_91 : decode mX4_readWords.2.1 91 = .ok (.isub, 1) := by decide +kernel
theorem dX4_readWords_92 : decode mX4_readWords.2.1 92 = .ok (.dup2, 1) := by decide +kernel
theorem dX4_readWords_93 : decode mX4_readWords.2.1 93 = .ok (.iaload, 1) := by decide +kernel
theorem dX4_readWords_94 : decode mX4_readWords.2.1 94 = .ok (.aload_n 0, 1) := by decide +kernel
theorem dX4_readWords_95 : decode mX4_readWords.2.1 95 = .ok (.getfield 9, 3) := by decide +kernel
theorem dX4_readWords_98 : decode mX4_readWords.2.1 98 = .ok (.iload_n 3, 1) := by decide +kernel
theorem dX4_readWords_99 : decode mX4_readWords.2.1 99 = .ok (.iaload, 1) := by decide +kernel
theorem dX4_readWords_100 : decode mX4_readWords.2.1 100 = .ok (.iadd, 1) := by decide +kernel
theorem dX4_readWords_101 : decode mX4_readWords.2.1 101 = .ok (.iastore, 1) := by decide +kernel
theorem dX4_readWords_102 : decode mX4_readWords.2.1 102 = .ok (.iinc 2 1, 3) := by decide +kernel
theorem dX4_readWords_105 : decode mX4_readWords.2.1 105 = .ok (.goto (-96), 3) := by decide +kernel
theorem dX4_readWords_108 : decode mX4_readWords.2.1 108 = .ok (.aload_n 0, 1) := by decide +kernel
theorem dX4_readWords_109 : decode mX4_readWords.2.1 109 = .ok (.getfield 46, 3) := by decide +kernel
theorem dX4_readWords_112 : decode mX4_readWords.2.1 112 = .ok (.ireturn, 1) := by decide +kernel
theorem dX4_breakUp_0 : decode mX4_breakUp.2.1 0 = .ok (.aload_n 0, 1) := by decide +kernel
theorem dX4_breakUp_1 : decode mX4_breakUp.2.1 1 = .ok (.invokevirtual 49, 3) := by decide +kernel
theorem dX4_breakUp_4 : decode mX4_breakUp.2.1 4 = .ok (.ifCond .ne 6, 3) := by decide +kernel
theorem dX4_breakUp_7 : decode mX4_breakUp.2.1 7 = .ok (.bipush (-4), 2) := by decide +kernel
theorem dX4_breakUp_9 : decode mX4_breakUp.2.1 9 = .ok (.ireturn, 1) := by decide +kernel
theorem dX4_breakUp_10 : decode mX4_breakUp.2.1 10 = .ok (.iconst 0, 1) := by decide +kernel
theorem dX4_breakUp_11 : decode mX4_breakUp.2.1 11 = .ok (.istore_n 3, 1) := by decide +kernel
theorem dX4_breakUp_12 : decode mX4_breakUp.2.1 12 = .ok (.iload_n 3, 1) := by decide +kernel
theorem dX4_breakUp_13 : decode mX4_breakUp.2.1 13 = .ok (.aload_n 0, 1) := by decide +kernel
theorem dX4_breakUp_14 : decode mX4_breakUp.2.1 14 = .ok (.getfield 46, 3) := by decide +kernel
theorem dX4_breakUp_17 : decode mX4_breakUp.2.1 17 = .ok (.if_icmp .gt 29, 3) := by decide +kernel
theorem dX4_breakUp_20 : decode mX4_breakUp.2.1 20 = .ok (.aload_n 0, 1) := by decide +kernel
theorem dX4_breakUp_21 : decode mX4_breakUp.2.1 21 = .ok (.getfield 40, 3) := by decide +kernel
theorem dX4_breakUp_24 : decode mX4_breakUp.2.1 24 = .ok (.iload_n 3, 1) := by decide +kernel
theorem dX4_breakUp_25 : decode mX4_breakUp.2.1 25 = .ok (.iload_n 3, 1) := by decide +kernel
theorem dX4_breakUp_26 : decode mX4_breakUp.2.1 26 = .ok (.aload_n 0, 1) := by decide +kernel
theorem dX4_breakUp_27 : decode mX4_breakUp.2.1 27 = .ok (.getfield 46, 3) := by decide +kernel
theorem dX4_breakUp_30 : decode mX4_breakUp.2.1 30 = .ok (.if_icmp .ne 7, 3) := by decide +kernel
theorem dX4_breakUp_33 : decode mX4_breakUp.2.1 33 = .ok (.iconst 0, 1) := by decide +kernel
theorem dX4_breakUp_34 : decode mX4_breakUp.2.1 34 = .ok (.goto 5, 3) := by decide +kernel
theorem dX4_breakUp_37 : decode mX4_breakUp.2.1 37 = .ok (.ldc 53, 2) := by decide +kernel
theorem dX4_breakUp_39 : decode mX4_breakUp.2.1 39 = .ok (.iastore, 1) := by decide +kernel
theorem dX4_breakUp_40 : decode mX4_breakUp.2.1 40 = .ok (.iinc 3 1, 3) := by decide +kernel
theorem dX4_breakUp_43 : decode mX4_breakUp.2.1 43 = .ok (.goto (-31), 3) := by decide +kernel
theorem dX4_breakUp_46 : decode mX4_breakUp.2.1 46 = .ok (.iconst 0, 1) := by decide +kernel
theorem dX4_breakUp_47 : decode mX4_breakUp.2.1 47 = .ok (.istore_n 3, 1) := by decide +kernel
theorem dX4_breakUp_48 : decode mX4_breakUp.2.1 48 = .ok (.iconst 1, 1) := by decide +kernel
theorem dX4_breakUp_49 : decode mX4_breakUp.2.1 49 = .ok (.istore 4, 2) := by decide +kernel
theorem dX4_breakUp_51 : decode mX4_breakUp.2.1 51 = .ok (.iload 4, 2) := by decide +kernel
theorem dX4_breakUp_53 : decode mX4_breakUp.2.1 53 = .ok (.iload_n 2, 1) := by decide +kernel
theorem dX4_breakUp_54 : decode mX4_breakUp.2.1 54 = .ok (.if_icmp .gt 61, 3) := by decide +kernel
theorem dX4_breakUp_57 : decode mX4_breakUp.2.1 57 = .ok (.iconst 0, 1) := by decide +kernel
theorem dX4_breakUp_58 : decode mX4_breakUp.2.1 58 = .ok (.istore 5, 2) := by decide +kernel
theorem dX4_breakUp_60 : decode mX4_breakUp.2.1 60 = .ok (.iload 5, 2) := by decide +kernel
theorem dX4_breakUp_62 : decode mX4_breakUp.2.1 62 = .ok (.aload_n 0, 1) := by decide +kernel
theorem dX4_breakUp_63 : decode mX4_breakUp.2.1 63 = .ok (.getfield 46, 3) := by decide +kernel
theorem dX4_breakUp_66 : decode mX4_breakUp.2.1 66 = .ok (.if_icmp .gt 18, 3) := by decide +kernel
theorem dX4_breakUp_69 : decode mX4_breakUp.2.1 69 = .ok (.aload_n 0, 1) := by decide +kernel
theorem dX4_breakUp_70 : decode mX4_breakUp.2.1 70 = .ok (.iload 4, 2) := by decide +kernel
theorem dX4_breakUp_72 : decode mX4_breakUp.2.1 72 = .ok (.iload 5, 2) := by decide +kernel
theorem dX4_breakUp_74 : decode mX4_breakUp.2.1 74 = .ok (.iload_n 1, 1) := by decide +kernel
theorem dX4_breakUp_75 : decode mX4_breakUp.2.1 75 = .ok (.invokevirtual 54, 3) := by decide +kernel
theorem dX4_breakUp_78 : decode mX4_breakUp.2.1 78 = .ok (.iinc 5 1, 3) := by decide +kernel
theorem dX4_breakUp_81 : decode mX4_breakUp.2.1 81 = .ok (.goto (-21), 3) := by decide +kernel
theorem dX4_breakUp_84 : decode mX4_breakUp.2.1 84 = .ok (.aload_n 0, 1) := by decide +kernel
theorem dX4_breakUp_85 : decode mX4_breakUp.2.1 85 = .ok (.getfield 40, 3) := by decide +kernel
theorem dX4_breakUp_88 : decode mX4_breakUp.2.1 88 = .ok (.iload 4, 2) := by decide +kernel
theorem dX4_breakUp_90 : decode mX4_breakUp.2.1 90 = .ok (.bipush 21, 2) := by decide +kernel
theorem dX4_breakUp_92 : decode mX4_breakUp.2.1 92 = .ok (.imul, 1) := by decide +kernel
theorem dX4_breakUp_93 : decode mX4_breakUp.2.1 93 = .ok (.iaload, 1) := by decide +kernel
theorem dX4_breakUp_94 : decode mX4_breakUp.2.1 94 = .ok (.aload_n 0, 1) := by decide +kernel
theorem dX4_breakUp_95 : decode mX4_breakUp.2.1 95 = .ok (.getfield 40, 3) := by decide +kernel
theorem dX4_breakUp_98 : decode mX4_breakUp.2.1 98 = .ok (.iload_n 3, 1) := by decide +kernel
theorem dX4_breakUp_99 : decode mX4_breakUp.2.1 99 = .ok (.bipush 21, 2) := by decide +kernel
theorem dX4_breakUp_101 : decode mX4_breakUp.2.1 101 = .ok (.imul, 1) := by decide +kernel
theorem dX4_breakUp_102 : decode mX4_breakUp.2.1 102 = .ok (.iaload, 1) := by decide +kernel
theorem dX4_breakUp_103 : decode mX4_breakUp.2.1 103 = .ok (.if_icmp .ge 6, 3) := by decide +kernel
theorem dX4_breakUp_106 : decode mX4_breakUp.2.1 106 = .ok (.iload 4, 2) := by decide +kernel
theorem dX4_breakUp_108 : decode mX4_breakUp.2.1 108 = .ok (.istore_n 3, 1) := by decide +kernel
theorem dX4_breakUp_109 : decode mX4_breakUp.2.1 109 = .ok (.iinc 4 1, 3) := by decide +kernel
theorem dX4_breakUp_112 : decode mX4_breakUp.2.1 112 = .ok (.goto (-61), 3) := by decide +kernel
theorem dX4_breakUp_115 : decode mX4_breakUp.2.1 115 = .ok (.aload_n 0, 1) := by decide +kernel
theorem dX4_breakUp_116 : decode mX4_breakUp.2.1 116 = .ok (.iload_n 3, 1) := by decide +kernel
theorem dX4_breakUp_117 : decode mX4_breakUp.2.1 117 = .ok (.invokevirtual 58, 3) := by decide +kernel
theorem dX4_breakUp_120 : decode mX4_breakUp.2.1 120 = .ok (.iload_n 3, 1) := by decide +kernel
theorem dX4_breakUp_121 : decode mX4_breakUp.2.1 121 = .ok (.ifCond .ne 7, 3) := by decide +kernel
theorem dX4_breakUp_124 : decode mX4_breakUp.2.1 124 = .ok (.iconst (-1), 1) := by decide +kernel
theorem dX4_breakUp_125 : decode mX4_breakUp.2.1 125 = .ok (.goto 12, 3) := by decide +kernel
theorem dX4_breakUp_128 : decode mX4_breakUp.2.1 128 = .ok (.aload_n 0, 1) := by decide +kernel
theorem dX4_breakUp_129 : decode mX4_breakUp.2.1 129 = .ok (.getfield 40, 3) := by decide +kernel
theorem dX4_breakUp_132 : decode mX4_breakUp.2.1 132 = .ok (.iload_n 3, 1) := by decide +kernel
theorem dX4_breakUp_133 : decode mX4_breakUp.2.1 133 = .ok (.bipush 21, 2) := by decide +kernel
theorem dX4_breakUp_135 : decode mX4_breakUp.2.1 135 = .ok (.imul, 1) := by decide +kernel
theorem dX4_breakUp_136 : decode mX4_breakUp.2.1 136 = .ok (.iaload, 1) := by decide +kernel
theorem dX4_breakUp_137 : decode mX4_breakUp.2.1 137 = .ok (.ireturn, 1) := by decide +kernel
theorem dX4_weigh_0 : decode mX4_weigh.2.1 0 = .ok (.ldc 53, 2) := by decide +kernel
theorem dX4_weigh_2 : decode mX4_weigh.2.1 2 = .ok (.istore 4, 2) := by decide +kernel
theorem dX4_weigh_4 : decode mX4_weigh.2.1 4 = .ok (.iconst 0, 1) := by decide +kernel
theorem dX4_weigh_5 : decode mX4_weigh.2.1 5 = .ok (.istore 5, 2) := by decide +kernel
theorem dX4_weigh_7 : decode mX4_weigh.2.1 7 = .ok (.aload_n 0, 1) := by decide +kernel
theorem dX4_weigh_8 : decode mX4_weigh.2.1 8 = .ok (.getfield 9, 3) := by decide +kernel
theorem dX4_weigh_11 : decode mX4_weigh.2.1 11 = .ok (.iconst 0, 1) := by decide +kernel
theorem dX4_weigh_12 : decode mX4_weigh.2.1 12 = .ok (.iaload, 1) := by decide +kernel
theorem dX4_weigh_13 : decode mX4_weigh.2.1 13 = .ok (.ineg, 1) := by decide +kernel
theorem dX4_weigh_14 : decode mX4_weigh.2.1 14 = .ok (.istore 6, 2) := by decide +kernel
theorem dX4_weigh_16 : decode mX4_weigh.2.1 16 = .ok (.iload_n 2, 1) := by decide +kernel
theorem dX4_weigh_17 : decode mX4_weigh.2.1 17 = .ok (.istore 7, 2) := by decide +kernel
theorem dX4_weigh_19 : decode mX4_weigh.2.1 19 = .ok (.iload 7, 2) := by decide +kernel
theorem dX4_weigh_21 : decode mX4_weigh.2.1 21 = .ok (.aload_n 0, 1) := by decide +kernel
theorem dX4_weigh_22 : decode mX4_weigh.2.1 22 = .ok (.getfield 46, 3) := by decide +kernel
theorem dX4_weigh_25 : decode mX4_weigh.2.1 25 = .ok (.if_icmp .ge 98, 3) := by decide +kernel
theorem dX4_weigh_28 : decode mX4_weigh.2.1 28 = .ok (.iload 6, 2) := by decide +kernel
theorem dX4_weigh_30 : decode mX4_weigh.2.1 30 = .ok (.aload_n 0, 1) := by decide +kernel
theorem dX4_weigh_31 : decode mX4_weigh.2.1 31 = .ok (.getfield 9, 3) := by decide +kernel
theorem dX4_weigh_34 : decode mX4_weigh.2.1 34 = .ok (.iconst 0, 1) := by decide +kernel
theorem dX4_weigh_35 : decode mX4_weigh.2.1 35 = .ok (.iaload, 1) := by decide +kernel
theorem dX4_weigh_36 : decode mX4_weigh.2.1 36 = .ok (.aload_n 0, 1) := by decide +kernel
theorem dX4_weigh_37 : decode mX4_weigh.2.1 37 = .ok (.getfield 37, 3) := by decide +kernel
theorem dX4_weigh_40 : decode mX4_weigh.2.1 40 = .ok (.iload 7, 2) := by decide +kernel
theorem dX4_weigh_42 : decode mX4_weigh.2.1 42 = .ok (.iaload, 1) := by decide +kernel
theorem dX4_weigh_43 : decode mX4_weigh.2.1 43 = .ok (.iadd, 1) := by decide +kernel
theorem dX4_weigh_44 : decode mX4_weigh.2.1 44 = .ok (.iadd, 1) := by decide +kernel
theorem dX4_weigh_45 : decode mX4_weigh.2.1 45 = .ok (.istore 6, 2) := by decide +kernel
theorem dX4_weigh_47 : decode mX4_weigh.2.1 47 = .ok (.iload 6, 2) := by decide +kernel
theorem dX4_weigh_49 : decode mX4_weigh.2.1 49 = .ok (.iload_n 3, 1) := by decide +kernel
theorem dX4_weigh_50 : decode mX4_weigh.2.1 50 = .ok (.if_icmp .le 6, 3) := by decide +kernel
theorem dX4_weigh_53 : decode mX4_weigh.2.1 53 = .ok (.goto 70, 3) := by decide +kernel
theorem dX4_weigh_56 : decode mX4_weigh.2.1 56 = .ok (.aload_n 0, 1) := by decide +kernel
theorem dX4_weigh_57 : decode mX4_weigh.2.1 57 = .ok (.getfield 40, 3) := by decide +kernel
theorem dX4_weigh_60 : decode mX4_weigh.2.1 60 = .ok (.iload_n 1, 1) := by decide +kernel
theorem dX4_weigh_61 : decode mX4_weigh.2.1 61 = .ok (.iconst 1, 1) := by decide +kernel
theorem dX4_weigh_62 : decode mX4_weigh.2.1 62 = .ok (.isub, 1) := by decide +kernel
theorem dX4_weigh_63 : decode mX4_weigh.2.1 63 = .ok (.bipush 21, 2) := by decide +kernel
theorem dX4_weigh_65 : decode mX4_weigh.2.1 65 = .ok (.imul, 1) := by decide +kernel
theorem dX4_weigh_66 : decode mX4_weigh.2.1 66 = .ok (.iload 7, 2) := by decide +kernel
theorem dX4_weigh_68 : decode mX4_weigh.2.1 68 = .ok (.iadd, 1) := by decide +kernel
theorem dX4_weigh_69 : decode mX4_weigh.2.1 69 = .ok (.iconst 1, 1) := by decide +kernel
theorem dX4_weigh_70 : decode mX4_weigh.2.1 70 = .ok (.iadd, 1) := by decide +kernel
theorem dX4_weigh_71 : decode mX4_weigh.2.1 71 = .ok (.iaload, 1) := by decide +kernel
theorem dX4_weigh_72 : decode mX4_weigh.2.1 72 = .ok (.istore 8, 2) := by decide +kernel
theorem dX4_weigh_74 : decode mX4_weigh.2.1 74 = .ok (.iload_n 3, 1) := by decide +kernel
theorem dX4_weigh_75 : decode mX4_weigh.2.1 75 = .ok (.iload 6, 2) := by decide +kernel
theorem dX4_weigh_77 : decode mX4_weigh.2.1 77 = .ok (.isub, 1) := by decide +kernel
theorem dX4_weigh_78 : decode mX4_weigh.2.1 78 = .ok (.iload_n 3, 1) := by decide +kernel
theorem dX4_weigh_79 : decode mX4_weigh.2.1 79 = .ok (.iload 6, 2) := by decide +kernel
theorem dX4_weigh_81 : decode mX4_weigh.2.1 81 = .ok (.isub, 1) := by decide +kernel
theorem dX4_weigh_82 : decode mX4_weigh.2.1 82 = .ok (.imul, 1) := by decide +kernel
theorem dX4_weigh_83 : decode mX4_weigh.2.1 83 = .ok (.istore 9, 2) := by decide +kernel
theorem dX4_weigh_85 : decode mX4_weigh.2.1 85 = .ok (.iload 8, 2) := by decide +kernel
theorem dX4_weigh_87 : decode mX4_weigh.2.1 87 = .ok (.ldc 53, 2) := by decide +kernel
theorem dX4_weigh_89 : decode mX4_weigh.2.1 89 = .ok (.if_icmp .eq 28, 3) := by decide +kernel
theorem dX4_weigh_92 : decode mX4_weigh.2.1 92 = .ok (.iload 8, 2) := by decide +kernel
theorem dX4_weigh_94 : decode mX4_weigh.2.1 94 = .ok (.iload 9, 2) := by decide +kernel
theorem dX4_weigh_96 : decode mX4_weigh.2.1 96 = .ok (.iadd, 1) := by decide +kernel
theorem dX4_weigh_97 : decode mX4_weigh.2.1 97 = .ok (.iload 4, 2) := by decide +kernel
theorem dX4_weigh_99 : decode mX4_weigh.2.1 99 = .ok (.if_icmp .ge 18, 3) := by decide +kernel
theorem dX4_weigh_102 : decode mX4_weigh.2.1 102 = .ok (.iload 8, 2) := by decide +kernel
theorem dX4_weigh_104 : decode mX4_weigh.2.1 104 = .ok (.iload 9, 2) := by decide +kernel
theorem dX4_weigh_106 : decode mX4_weigh.2.1 106 = .ok (.iadd, 1) := by decide +kernel
theorem dX4_weigh_107 : decode mX4_weigh.2.1 107 = .ok (.istore 4, 2) := by decide +kernel
theorem dX4_weigh_109 : decode mX4_weigh.2.1 109 = .ok (.iload 7, 2) := by decide +kernel
theorem dX4_weigh_111 : decode mX4_weigh.2.1 111 = .ok (.iload_n 2, 1) := by decide +kernel
theorem dX4_weigh_112 : decode mX4_weigh.2.1 112 = .ok (.isub, 1) := by decide +kernel
theorem dX4_weigh_113 : decode mX4_weigh.2.1 113 = .ok (.iconst 1, 1) := by decide +kernel
theorem dX4_weigh_114 : decode mX4_weigh.2.1 114 = .ok (.iadd, 1) := by decide +kernel
theorem dX4_weigh_115 : decode mX4_weigh.2.1 115 = .ok (.istore 5, 2) := by decide +kernel
theorem dX4_weigh_117 : decode mX4_weigh.2.1 117 = .ok (.iinc 7 1, 3) := by decide +kernel
theorem dX4_weigh_120 : decode mX4_weigh.2.1 120 = .ok (.goto (-101), 3) := by decide +kernel
theorem dX4_weigh_123 : decode mX4_weigh.2.1 123 = .ok (.aload_n 0, 1) := by decide +kernel
theorem dX4_weigh_124 : decode mX4_weigh.2.1 124 = .ok (.getfield 40, 3) := by decide +kernel
theorem dX4_weigh_127 : decode mX4_weigh.2.1 127 = .ok (.iload_n 1, 1) := by decide +kernel
theorem dX4_weigh_128 : decode mX4_weigh.2.1 128 = .ok (.bipush 21, 2) := by decide +kernel
theorem dX4_weigh_130 : decode mX4_weigh.2.1 130 = .ok (.imul, 1) := by decide +kernel
theorem dX4_weigh_131 : decode mX4_weigh.2.1 131 = .ok (.iload_n 2, 1) := by decide +kernel
theorem dX4_weigh_132 : decode mX4_weigh.2.1 132 = .ok (.iadd, 1) := by decide +kernel
theorem dX4_weigh_133 : decode mX4_weigh.2.1 133 = .ok (.iload 4, 2) := by decide +kernel
theorem dX4_weigh_135 : decode mX4_weigh.2.1 135 = .ok (.iastore, 1) := by decide +kernel
theorem dX4_weigh_136 : decode mX4_weigh.2.1 136 = .ok (.aload_n 0, 1) := by decide +kernel
theorem dX4_weigh_137 : decode mX4_weigh.2.1 137 = .ok (.getfield 43, 3) := by decide +kernel
theorem dX4_weigh_140 : decode mX4_weigh.2.1 140 = .ok (.iload_n 1, 1) := by decide +kernel
theorem dX4_weigh_141 : decode mX4_weigh.2.1 141 = .ok (.bipush 21, 2) := by decide +kernel
theorem dX4_weigh_143 : decode mX4_weigh.2.1 143 = .ok (.imul, 1) := by decide +kernel
theorem dX4_weigh_144 : decode mX4_weigh.2.1 144 = .ok (.iload_n 2, 1) := by decide +kernel
theorem dX4_weigh_145 : decode mX4_weigh.2.1 145 = .ok (.iadd, 1) := by decide +kernel
theorem dX4_weigh_146 : decode mX4_weigh.2.1 146 = .ok (.iload 5, 2) := by decide +kernel
theorem dX4_weigh_148 : decode mX4_weigh.2.1 148 = .ok (.iastore, 1) := by decide +kernel
theorem dX4_weigh_149 : decode mX4_weigh.2.1 149 = .ok (.return_, 1) := by decide +kernel
theorem dX4_layOut_0 : decode mX4_layOut.2.1 0 = .ok (.aload_n 0, 1) := by decide +kernel
theorem dX4_layOut_1 : decode mX4_layOut.2.1 1 = .ok (.iload_n 1, 1) := by decide +kernel
theorem dX4_layOut_2 : decode mX4_layOut.2.1 2 = .ok (.putfield 25, 3) := by decide +kernel
theorem dX4_layOut_5 : decode mX4_layOut.2.1 5 = .ok (.iconst 0, 1) := by decide +kernel
theorem dX4_layOut_6 : decode mX4_layOut.2.1 6 = .ok (.istore_n 2, 1) := by decide +kernel
theorem dX4_layOut_7 : decode mX4_layOut.2.1 7 = .ok (.iconst 0, 1) := by decide +kernel
theorem dX4_layOut_8 : decode mX4_layOut.2.1 8 = .ok (.istore_n 3, 1) := by decide +kernel
theorem dX4_layOut_9 : decode mX4_layOut.2.1 9 = .ok (.iload_n 3, 1) := by decide +kernel
theorem dX4_layOut_10 : decode mX4_layOut.2.1 10 = .ok (.aload_n 0, 1) := by decide +kernel
theorem dX4_layOut_11 : decode mX4_layOut.2.1 11 = .ok (.getfield 25, 3) := by decide +kernel
theorem dX4_layOut_14 : decode mX4_layOut.2.1 14 = .ok (.if_icmp .ge 40, 3) := by decide +kernel
theorem dX4_layOut_17 : decode mX4_layOut.2.1 17 = .ok (.aload_n 0, 1) := by decide +kernel
theorem dX4_layOut_18 : decode mX4_layOut.2.1 18 = .ok (.getfield 18, 3) := by decide +kernel
theorem dX4_layOut_21 : decode mX4_layOut.2.1 21 = .ok (.iload_n 3, 1) := by decide +kernel
theorem dX4_layOut_22 : decode mX4_layOut.2.1 22 = .ok (.aload_n 0, 1) := by decide +kernel
theorem dX4_layOut_23 : decode mX4_layOut.2.1 23 = .ok (.getfield 43, 3) := by decide +kernel
theorem dX4_layOut_26 : decode mX4_layOut.2.1 26 = .ok (.aload_n 0, 1) := by decide +kernel
theorem dX4_layOut_27 : decode mX4_layOut.2.1 27 = .ok (.getfield 25, 3) := by decide +kernel
theorem dX4_layOut_30 : decode mX4_layOut.2.1 30 = .ok (.iload_n 3, 1) := by decide +kernel
theorem dX4_layOut_31 : decode mX4_layOut.2.1 31 = .ok (.isub, 1) := by decide +kernel
theorem dX4_layOut_32 : decode mX4_layOut.2.1 32 = .ok (.bipush 21, 2) := by decide +kernel
theorem dX4_layOut_34 : decode mX4_layOut.2.1 34 = .ok (.imul, 1) := by decide +kernel
theorem dX4_layOut_35 : decode mX4_layOut.2.1 35 = .ok (.iload_n 2, 1) := by decide +kernel
theorem dX4_layOut_36 : decode mX4_layOut.2.1 36 = .ok (.iadd, 1) := by decide +kernel
theorem dX4_layOut_37 : decode mX4_layOut.2.1 37 = .ok (.iaload, 1) := by decide +kernel
theorem dX4_layOut_38 : decode mX4_layOut.2.1 38 = .ok (.iastore, 1) := by decide +kernel
theorem dX4_layOut_39 : decode mX4_layOut.2.1 39 = .ok (.iload_n 2, 1) := by decide +kernel
theorem dX4_layOut_40 : decode mX4_layOut.2.1 40 = .ok (.aload_n 0, 1) := by decide +kernel
theorem dX4_layOut_41 : decode mX4_layOut.2.1 41 = .ok (.getfield 18, 3) := by decide +kernel
theorem dX4_layOut_44 : decode mX4_layOut.2.1 44 = .ok (.iload_n 3, 1) := by decide +kernel
theorem dX4_layOut_45 : decode mX4_layOut.2.1 45 = .ok (.iaload, 1) := by decide +kernel
theorem dX4_layOut_46 : decode mX4_layOut.2.1 46 = .ok (.iadd, 1) := by decide +kernel
theorem dX4_layOut_47 : decode mX4_layOut.2.1 47 = .ok (.istore_n 2, 1) := by decide +kernel
theorem dX4_layOut_48 : decode mX4_layOut.2.1 48 = .ok (.iinc 3 1, 3) := by decide +kernel
theorem dX4_layOut_51 : decode mX4_layOut.2.1 51 = .ok (.goto (-42), 3) := by decide +kernel
theorem dX4_layOut_54 : decode mX4_layOut.2.1 54 = .ok (.return_, 1) := by decide +kernel
theorem dX4_countLetters_0 : decode mX4_countLetters.2.1 0 = .ok (.iconst 0, 1) := by decide +kernel
theorem dX4_countLetters_1 : decode mX4_countLetters.2.1 1 = .ok (.istore_n 1, 1) := by decide +kernel
theorem dX4_countLetters_2 : decode mX4_countLetters.2.1 2 = .ok (.iconst 1, 1) := by decide +kernel
theorem dX4_countLetters_3 : decode mX4_countLetters.2.1 3 = .ok (.istore_n 2, 1) := by decide +kernel
theorem dX4_countLetters_4 : decode mX4_countLetters.2.1 4 = .ok (.iload_n 2, 1) := by decide +kernel
theorem dX4_countLetters_5 : decode mX4_countLetters.2.1 5 = .ok (.bipush 26, 2) := by decide +kernel
theorem dX4_countLetters_7 : decode mX4_countLetters.2.1 7 = .ok (.if_icmp .gt 16, 3) := by decide +kernel
theorem dX4_countLetters_10 : decode mX4_countLetters.2.1 10 = .ok (.aload_n 0, 1) := by decide +kernel
theorem dX4_countLetters_11 : decode mX4_countLetters.2.1 11 = .ok (.getfield 34, 3) := by decide +kernel
theorem dX4_countLetters_14 : decode mX4_countLetters.2.1 14 = .ok (.iload_n 2, 1) := by decide +kernel
theorem dX4_countLetters_15 : decode mX4_countLetters.2.1 15 = .ok (.iconst 0, 1) := by decide +kernel
theorem dX4_countLetters_16 : decode mX4_countLetters.2.1 16 = .ok (.iastore, 1) := by decide +kernel
theorem dX4_countLetters_17 : decode mX4_countLetters.2.1 17 = .ok (.iinc 2 1, 3) := by decide +kernel
theorem dX4_countLetters_20 : decode mX4_countLetters.2.1 20 = .ok (.goto (-16), 3) := by decide +kernel
theorem dX4_countLetters_23 : decode mX4_countLetters.2.1 23 = .ok (.iconst 0, 1) := by decide +kernel
theorem dX4_countLetters_24 : decode mX4_countLetters.2.1 24 = .ok (.istore_n 2, 1) := by decide +kernel
theorem dX4_countLetters_25 : decode mX4_countLetters.2.1 25 = .ok (.iload_n 2, 1) := by decide +kernel
theorem dX4_countLetters_26 : decode mX4_countLetters.2.1 26 = .ok (.aload_n 0, 1) := by decide +kernel
theorem dX4_countLetters_27 : decode mX4_countLetters.2.1 27 = .ok (.getfield 21, 3) := by decide +kernel
theorem dX4_countLetters_30 : decode mX4_countLetters.2.1 30 = .ok (.if_icmp .ge 36, 3) := by decide +kernel
theorem dX4_countLetters_33 : decode mX4_countLetters.2.1 33 = .ok (.aload_n 0, 1) := by decide +kernel
theorem dX4_countLetters_34 : decode mX4_countLetters.2.1 34 = .ok (.getfield 31, 3) := by decide +kernel
theorem dX4_countLetters_37 : decode mX4_countLetters.2.1 37 = .ok (.iload_n 2, 1) := by decide +kernel
theorem dX4_countLetters_38 : decode mX4_countLetters.2.1 38 = .ok (.iaload, 1) := by decide +kernel
theorem dX4_countLetters_39 : decode mX4_countLetters.2.1 39 = .ok (.ifCond .eq 21, 3) := by decide +kernel
theorem dX4_countLetters_42 : decode mX4_countLetters.2.1 42 = .ok (.aload_n 0, 1) := by decide +kernel
theorem dX4_countLetters_43 : decode mX4_countLetters.2.1 43 = .ok (.getfield 34, 3) := by decide +kernel
theorem dX4_countLetters_46 : decode mX4_countLetters.2.1 46 = .ok (.aload_n 0, 1) := by decide +kernel
theorem dX4_countLetters_47 : decode mX4_countLetters.2.1 47 = .ok (.getfield 31, 3) := by decide +kernel
theorem dX4_countLetters_50 : decode mX4_countLetters.2.1 50 = .ok (.iload_n 2, 1) := by decide +kernel
theorem dX4_countLetters_51 : decode mX4_countLetters.2.1 51 = .ok (.iaload, 1) := by decide +kernel
theorem dX4_countLetters_52 : decode mX4_countLetters.2.1 52 = .ok (.dup2, 1) := by decide +kernel
theorem dX4_countLetters_53 : decode mX4_countLetters.2.1 53 = .ok (.iaload, 1) := by decide +kernel
theorem dX4_countLetters_54 : decode mX4_countLetters.2.1 54 = .ok (.iconst 1, 1) := by decide +kernel
theorem dX4_countLetters_55 : decode mX4_countLetters.2.1 55 = .ok (.iadd, 1) := by decide +kernel
theorem dX4_countLetters_56 : decode mX4_countLetters.2.1 56 = .ok (.iastore, 1) := by decide +kernel
theorem dX4_countLetters_57 : decode mX4_countLetters.2.1 57 = .ok (.iinc 1 1, 3) := by decide +kernel
theorem dX4_countLetters_60 : decode mX4_countLetters.2.1 60 = .ok (.iinc 2 1, 3) := by decide +kernel
theorem dX4_countLetters_63 : decode mX4_countLetters.2.1 63 = .ok (.goto (-38), 3) := by decide +kernel
theorem dX4_countLetters_66 : decode mX4_countLetters.2.1 66 = .ok (.iload_n 1, 1) := by decide +kernel
theorem dX4_countLetters_67 : decode mX4_countLetters.2.1 67 = .ok (.ireturn, 1) := by decide +kernel
theorem dX4_wouldBlunt_0 : decode mX4_wouldBlunt.2.1 0 = .ok (.iconst 1, 1) := by decide +kernel
theorem dX4_wouldBlunt_1 : decode mX4_wouldBlunt.2.1 1 = .ok (.istore_n 1, 1) := by decide +kernel
theorem dX4_wouldBlunt_2 : decode mX4_wouldBlunt.2.1 2 = .ok (.iload_n 1, 1) := by decide +kernel
theorem dX4_wouldBlunt_3 : decode mX4_wouldBlunt.2.1 3 = .ok (.bipush 26, 2) := by decide +kernel
theorem dX4_wouldBlunt_5 : decode mX4_wouldBlunt.2.1 5 = .ok (.if_icmp .gt 40, 3) := by decide +kernel
theorem dX4_wouldBlunt_8 : decode mX4_wouldBlunt.2.1 8 = .ok (.aload_n 0, 1) := by decide +kernel
theorem dX4_wouldBlunt_9 : decode mX4_wouldBlunt.2.1 9 = .ok (.getfield 34, 3) := by decide +kernel
theorem dX4_wouldBlunt_12 : decode mX4_wouldBlunt.2.1 12 = .ok (.iload_n 1, 1) := by decide +kernel
theorem dX4_wouldBlunt_13 : decode mX4_wouldBlunt.2.1 13 = .ok (.iaload, 1) := by decide +kernel
theorem dX4_wouldBlunt_14 : decode mX4_wouldBlunt.2.1 14 = .ok (.ifCond .le 25, 3) := by decide +kernel
theorem dX4_wouldBlunt_17 : decode mX4_wouldBlunt.2.1 17 = .ok (.aload_n 0, 1) := by decide +kernel
theorem dX4_wouldBlunt_18 : decode mX4_wouldBlunt.2.1 18 = .ok (.getfield 15, 3) := by decide +kernel
theorem dX4_wouldBlunt_21 : decode mX4_wouldBlunt.2.1 21 = .ok (.iload_n 1, 1) := by decide +kernel
theorem dX4_wouldBlunt_22 : decode mX4_wouldBlunt.2.1 22 = .ok (.iaload, 1) := by decide +kernel
theorem dX4_wouldBlunt_23 : decode mX4_wouldBlunt.2.1 23 = .ok (.aload_n 0, 1) := by decide +kernel
theorem dX4_wouldBlunt_24 : decode mX4_wouldBlunt.2.1 24 = .ok (.getfield 34, 3) := by decide +kernel
theorem dX4_wouldBlunt_27 : decode mX4_wouldBlunt.2.1 27 = .ok (.iload_n 1, 1) := by decide +kernel
theorem dX4_wouldBlunt_28 : decode mX4_wouldBlunt.2.1 28 = .ok (.iaload, 1) := by decide +kernel
theorem dX4_wouldBlunt_29 : decode mX4_wouldBlunt.2.1 29 = .ok (.iadd, 1) := by decide +kernel
theorem dX4_wouldBlunt_30 : decode mX4_wouldBlunt.2.1 30 = .ok (.aload_n 0, 1) := by decide +kernel
theorem dX4_wouldBlunt_31 : decode mX4_wouldBlunt.2.1 31 = .ok (.getfield 28, 3) := by decide +kernel
theorem dX4_wouldBlunt_34 : decode mX4_wouldBlunt.2.1 34 = .ok (.if_icmp .le 5, 3) := by decide +kernel
theorem dX4_wouldBlunt_37 : decode mX4_wouldBlunt.2.1 37 = .ok (.iconst 1, 1) := by decide +kernel
theorem dX4_wouldBlunt_38 : decode mX4_wouldBlunt.2.1 38 = .ok (.ireturn, 1) := by decide +kernel
theorem dX4_wouldBlunt_39 : decode mX4_wouldBlunt.2.1 39 = .ok (.iinc 1 1, 3) := by decide +kernel
theorem dX4_wouldBlunt_42 : decode mX4_wouldBlunt.2.1 42 = .ok (.goto (-40), 3) := by decide +kernel
theorem dX4_wouldBlunt_45 : decode mX4_wouldBlunt.2.1 45 = .ok (.iconst 0, 1) := by decide +kernel
theorem dX4_wouldBlunt_46 : decode mX4_wouldBlunt.2.1 46 = .ok (.ireturn, 1) := by decide +kernel
theorem dX4_stampAll_0 : decode mX4_stampAll.2.1 0 = .ok (.iconst 1, 1) := by decide +kernel
theorem dX4_stampAll_1 : decode mX4_stampAll.2.1 1 = .ok (.istore_n 1, 1) := by decide +kernel
theorem dX4_stampAll_2 : decode mX4_stampAll.2.1 2 = .ok (.iload_n 1, 1) := by decide +kernel
theorem dX4_stampAll_3 : decode mX4_stampAll.2.1 3 = .ok (.bipush 26, 2) := by decide +kernel
theorem dX4_stampAll_5 : decode mX4_stampAll.2.1 5 = .ok (.if_icmp .gt 24, 3) := by decide +kernel
theorem dX4_stampAll_8 : decode mX4_stampAll.2.1 8 = .ok (.aload_n 0, 1) := by decide +kernel
theorem dX4_stampAll_9 : decode mX4_stampAll.2.1 9 = .ok (.getfield 15, 3) := by decide +kernel
theorem dX4_stampAll_12 : decode mX4_stampAll.2.1 12 = .ok (.iload_n 1, 1) := by decide +kernel
theorem dX4_stampAll_13 : decode mX4_stampAll.2.1 13 = .ok (.dup2, 1) := by decide +kernel
theorem dX4_stampAll_14 : decode mX4_stampAll.2.1 14 = .ok (.iaload, 1) := by decide +kernel
theorem dX4_stampAll_15 : decode mX4_stampAll.2.1 15 = .ok (.aload_n 0, 1) := by decide +kernel
theorem dX4_stampAll_16 : decode mX4_stampAll.2.1 16 = .ok (.getfield 34, 3) := by decide +kernel
theorem dX4_stampAll_19 : decode mX4_stampAll.2.1 19 = .ok (.iload_n 1, 1) := by decide +kernel
theorem dX4_stampAll_20 : decode mX4_stampAll.2.1 20 = .ok (.iaload, 1) := by decide +kernel
theorem dX4_stampAll_21 : decode mX4_stampAll.2.1 21 = .ok (.iadd, 1) := by decide +kernel
theorem dX4_stampAll_22 : decode mX4_stampAll.2.1 22 = .ok (.iastore, 1) := by decide +kernel
theorem dX4_stampAll_23 : decode mX4_stampAll.2.1 23 = .ok (.iinc 1 1, 3) := by decide +kernel
theorem dX4_stampAll_26 : decode mX4_stampAll.2.1 26 = .ok (.goto (-24), 3) := by decide +kernel
theorem dX4_stampAll_29 : decode mX4_stampAll.2.1 29 = .ok (.return_, 1) := by decide +kernel
end
section
theorem dX2_init_0 : decode mX2_init.2.1 0 = .ok (.aload_n 0, 1) := by decide +kernel
theorem dX2_init_1 : decode mX2_init.2.1 1 = .ok (.invokespecial 3, 3) := by decide +kernel
theorem dX2_init_4 : decode mX2_init.2.1 4 = .ok (.aload_n 0, 1) := by decide +kernel
theorem dX2_init_5 : decode mX2_init.2.1 5 = .ok (.bipush 7, 2) := by decide +kernel
theorem dX2_init_7 : decode mX2_init.2.1 7 = .ok (.newarray .int, 2) := by decide +kernel
theorem dX2_init_9 : decode mX2_init.2.1 9 = .ok (.putfield 9, 3) := by decide +kernel
theorem dX2_init_12 : decode mX2_init.2.1 12 = .ok (.aload_n 0, 1) := by decide +kernel
theorem dX2_init_13 : decode mX2_init.2.1 13 = .ok (.bipush 7, 2) := by decide +kernel
theorem dX2_init_15 : decode mX2_init.2.1 15 = .ok (.newarray .int, 2) := by decide +kernel
theorem dX2_init_17 : decode mX2_init.2.1 17 = .ok (.putfield 15, 3) := by decide +kernel
theorem dX2_init_20 : decode mX2_init.2.1 20 = .ok (.aload_n 0, 1) := by decide +kernel
theorem dX2_init_21 : decode mX2_init.2.1 21 = .ok (.bipush 35, 2) := by decide +kernel
theorem dX2_init_23 : decode mX2_init.2.1 23 = .ok (.newarray .int, 2) := by decide +kernel
theorem dX2_init_25 : decode mX2_init.2.1 25 = .ok (.putfield 18, 3) := by decide +kernel
theorem dX2_init_28 : decode mX2_init.2.1 28 = .ok (.aload_n 0, 1) := by decide +kernel
theorem dX2_init_29 : decode mX2_init.2.1 29 = .ok (.bipush 7, 2) := by decide +kernel
theorem dX2_init_31 : decode mX2_init.2.1 31 = .ok (.newarray .int, 2) := by decide +kernel
theorem dX2_init_33 : decode mX2_init.2.1 33 = .ok (.putfield 21, 3) := by decide +kernel
theorem dX2_init_36 : decode mX2_init.2.1 36 = .ok (.aload_n 0, 1) := by decide +kernel
theorem dX2_init_37 : decode mX2_init.2.1 37 = .ok (.bipush 7, 2) := by decide +kernel
theorem dX2_init_39 : decode mX2_init.2.1 39 = .ok (.newarray .int, 2) := by decide +kernel
theorem dX2_init_41 : decode mX2_init.2.1 41 = .ok (.putfield 24, 3) := by decide +kernel
theorem dX2_init_44 : decode mX2_init.2.1 44 = .ok (.aload_n 0, 1) := by decide +kernel
theorem dX2_init_45 : decode mX2_init.2.1 45 = .ok (.bipush 7, 2) := by decide +kernel
theorem dX2_init_47 : decode mX2_init.2.1 47 = .ok (.newarray .int, 2) := by decide +kernel
theorem dX2_init_49 : decode mX2_init.2.1 49 = .ok (.putfield 27, 3) := by decide +kernel
theorem dX2_init_52 : decode mX2_init.2.1 52 = .ok (.aload_n 0, 1) := by decide +kernel
theorem dX2_init_53 : decode mX2_init.2.1 53 = .ok (.bipush 7, 2) := by decide +kernel
theorem dX2_init_55 : decode mX2_init.2.1 55 = .ok (.newarray .int, 2) := by decide +kernel
theorem dX2_init_57 : decode mX2_init.2.1 57 = .ok (.putfield 30, 3) := by decide +kernel
theorem dX2_init_60 : decode mX2_init.2.1 60 = .ok (.aload_n 0, 1) := by decide +kernel
theorem dX2_init_61 : decode mX2_init.2.1 61 = .ok (.bipush 7, 2) := by decide +kernel
theorem dX2_init_63 : decode mX2_init.2.1 63 = .ok (.newarray .int, 2) := by decide +kernel
theorem dX2_init_65 : decode mX2_init.2.1 65 = .ok (.putfield 33, 3) := by decide +kernel
theorem dX2_init_68 : decode mX2_init.2.1 68 = .ok (.aload_n 0, 1) := by decide +kernel
theorem dX2_init_69 : decode mX2_init.2.1 69 = .ok (.bipush 40, 2) := by decide +kernel
theorem dX2_init_71 : decode mX2_init.2.1 71 = .ok (.newarray .int, 2) := by decide +kernel
theorem dX2_init_73 : decode mX2_init.2.1 73 = .ok (.putfield 36, 3) := by decide +kernel
theorem dX2_init_76 : decode mX2_init.2.1 76 = .ok (.aload_n 0, 1) := by decide +kernel
theorem dX2_init_77 : decode mX2_init.2.1 77 = .ok (.iconst 0, 1) := by decide +kernel
theorem dX2_init_78 : decode mX2_init.2.1 78 = .ok (.putfield 39, 3) := by decide +kernel
theorem dX2_init_81 : decode mX2_init.2.1 81 = .ok (.aload_n 0, 1) := by decide +kernel
theorem dX2_init_82 : decode mX2_init.2.1 82 = .ok (.iconst 0, 1) := by decide +kernel
theorem dX2_init_83 : decode mX2_init.2.1 83 = .ok (.putfield 43, 3) := by decide +kernel
theorem dX2_init_86 : decode mX2_init.2.1 86 = .ok (.aload_n 0, 1) := by decide +kernel
theorem dX2_init_87 : decode mX2_init.2.1 87 = .ok (.iconst 0, 1) := by decide +kernel
theorem dX2_init_88 : decode mX2_init.2.1 88 = .ok (.putfield 46, 3) := by decide +kernel
theorem dX2_init_91 : decode mX2_init.2.1 91 = .ok (.return_, 1) := by decide +kernel
theorem dX2_clear_0 : decode mX2_clear.2.1 0 = .ok (.aload_n 0, 1) := by decide +kernel
theorem dX2_clear_1 : decode mX2_clear.2.1 1 = .ok (.iconst 0, 1) := by decide +kernel
theorem dX2_clear_2 : decode mX2_clear.2.1 2 = .ok (.putfield 39, 3) := by decide +kernel
theorem dX2_clear_5 : decode mX2_clear.2.1 5 = .ok (.return_, 1) := by decide +kernel
theorem dX2_enlist_0 : decode mX2_enlist.2.1 0 = .ok (.aload_n 0, 1) := by decide +kernel
theorem dX2_enlist_1 : decode mX2_enlist.2.1 1 = .ok (.getfield 39, 3) := by decide +kernel
theorem dX2_enlist_4 : decode mX2_enlist.2.1 4 = .ok (.bipush 7, 2) := by decide +kernel
theorem dX2_enlist_6 : decode mX2_enlist.2.1 6 = .ok (.if_icmp .lt 4, 3) := by decide +kernel
theorem dX2_enlist_9 : decode mX2_enlist.2.1 9 = .ok (.return_, 1) := by decide +kernel
theorem dX2_enlist_10 : decode mX2_enlist.2.1 10 = .ok (.aload_n 0, 1) := by decide +kernel
theorem dX2_enlist_11 : decode mX2_enlist.2.1 11 = .ok (.getfield 15, 3) := by decide +kernel
theorem dX2_enlist_14 : decode mX2_enlist.2.1 14 = .ok (.aload_n 0, 1) := by decide +kernel
theorem dX2_enlist_15 : decode mX2_enlist.2.1 15 = .ok (.getfield 39, 3) := by decide +kernel
theorem dX2_enlist_18 : decode mX2_enlist.2.1 18 = .ok (.iload_n 1, 1) := by decide +kernel
theorem dX2_enlist_19 : decode mX2_enlist.2.1 19 = .ok (.iastore, 1) := by decide +kernel
theorem dX2_enlist_20 : decode mX2_enlist.2.1 20 = .ok (.iconst 0, 1) := by decide +kernel
theorem dX2_enlist_21 : decode mX2_enlist.2.1 21 = .ok (.istore_n 3, 1) := by decide +kernel
theorem dX2_enlist_22 : decode mX2_enlist.2.1 22 = .ok (.iload_n 3, 1) := by decide +kernel
theorem dX2_enlist_23 : decode mX2_enlist.2.1 23 = .ok (.iconst 5, 1) := by decide +kernel
theorem dX2_enlist_24 : decode mX2_enlist.2.1 24 = .ok (.if_icmp .ge 28, 3) := by decide +kernel
theorem dX2_enlist_27 : decode mX2_enlist.2.1 27 = .ok (.aload_n 0, 1) := by decide +kernel
theorem dX2_enlist_28 : decode mX2_enlist.2.1 28 = .ok (.getfield 18, 3) := by decide +kernel
theorem dX2_enlist_31 : decode mX2_enlist.2.1 31 = .ok (.aload_n 0, 1) := by decide +kernel
theorem dX2_enlist_32 : decode mX2_enlist.2.1 32 = .ok (.getfield 39, 3) := by decide +kernel
theorem dX2_enlist_35 : decode mX2_enlist.2.1 35 = .ok (.iconst 5, 1) := by decide +kernel
theorem dX2_enlist_36 : decode mX2_enlist.2.1 36 = .ok (.imul, 1) := by decide +kernel
theorem dX2_enlist_37 : decode mX2_enlist.2.1 37 = .ok (.iload_n 3, 1) := by decide +kernel
theorem dX2_enlist_38 : decode mX2_enlist.2.1 38 = .ok (.iadd, 1) := by decide +kernel
theorem dX2_enlist_39 : decode mX2_enlist.2.1 39 = .ok (.aload_n 2, 1) := by decide +kernel
theorem dX2_enlist_40 : decode mX2_enlist.2.1 40 = .ok (.getfield 49, 3) := by decide +kernel
theorem dX2_enlist_43 : decode mX2_enlist.2.1 43 = .ok (.iload_n 3, 1) := by decide +kernel
theorem dX2_enlist_44 : decode mX2_enlist.2.1 44 = .ok (.iaload, 1) := by decide +kernel
theorem dX2_enlist_45 : decode mX2_enlist.2.1 45 = .ok (.iastore, 1) := by decide +kernel
theorem dX2_enlist_46 : decode mX2_enlist.2.1 46 = .ok (.iinc 3 1, 3) := by decide +kernel
theorem dX2_enlist_49 : decode mX2_enlist.2.1 49 = .ok (.goto (-27), 3) := by decide +kernel
theorem dX2_enlist_52 : decode mX2_enlist.2.1 52 = .ok (.aload_n 0, 1) := by decide +kernel
theorem dX2_enlist_53 : decode mX2_enlist.2.1 53 = .ok (.getfield 21, 3) := by decide +kernel
theorem dX2_enlist_56 : decode mX2_enlist.2.1 56 = .ok (.aload_n 0, 1) := by decide +kernel
theorem dX2_enlist_57 : decode mX2_enlist.2.1 57 = .ok (.getfield 39, 3) := by decide +kernel
theorem dX2_enlist_60 : decode mX2_enlist.2.1 60 = .ok (.aload_n 2, 1) := by decide +kernel
theorem dX2_enlist_61 : decode mX2_enlist.2.1 61 = .ok (.getfield 52, 3) := by decide +kernel
theorem dX2_enlist_64 : decode mX2_enlist.2.1 64 = .ok (.iastore, 1) := by decide +kernel
theorem dX2_enlist_65 : decode mX2_enlist.2.1 65 = .ok (.aload_n 0, 1) := by decide +kernel
theorem dX2_enlist_66 : decode mX2_enlist.2.1 66 = .ok (.getfield 24, 3) := by decide +kernel
theorem dX2_enlist_69 : decode mX2_enlist.2.1 69 = .ok (.aload_n 0, 1) := by decide +kernel
theorem dX2_enlist_70 : decode mX2_enlist.2.1 70 = .ok (.getfield 39, 3) := by decide +kernel
theorem dX2_enlist_73 : decode mX2_enlist.2.1 73 = .ok (.aload_n 2, 1) := by decide +kernel
theorem dX2_enlist_74 : decode mX2_enlist.2.1 74 = .ok (.getfield 54, 3) := by decide +kernel
theorem dX2_enlist_77 : decode mX2_enlist.2.1 77 = .ok (.iastore, 1) := by decide +kernel
theorem dX2_enlist_78 : decode mX2_enlist.2.1 78 = .ok (.aload_n 0, 1) := by decide +kernel
theorem dX2_enlist_79 : decode mX2_enlist.2.1 79 = .ok (.getfield 27, 3) := by decide +kernel
theorem dX2_enlist_82 : decode mX2_enlist.2.1 82 = .ok (.aload_n 0, 1) := by decide +kernel
theorem dX2_enlist_83 : decode mX2_enlist.2.1 83 = .ok (.getfield 39, 3) := by decide +kernel
theorem dX2_enlist_86 : decode mX2_enlist.2.1 86 = .ok (.aload_n 2, 1) := by decide +kernel
theorem dX2_enlist_87 : decode mX2_enlist.2.1 87 = .ok (.getfield 56, 3) := by decide +kernel
theorem dX2_enlist_90 : decode mX2_enlist.2.1 90 = .ok (.iastore, 1) := by decide +kernel
theorem dX2_enlist_91 : decode mX2_enlist.2.1 91 = .ok (.aload_n 0, 1) := by decide +kernel
theorem dX2_enlist_92 : decode mX2_enlist.2.1 92 = .ok (.dup, 1) := by decide +kernel
theorem dX2_enlist_93 : decode mX2_enlist.2.1 93 = .ok (.getfield 39, 3) := by decide +kernel
theorem dX2_enlist_96 : decode mX2_enlist.2.1 96 = .ok (.iconst 1, 1) := by decide +kernel
theorem dX2_enlist_97 : decode mX2_enlist.2.1 97 = .ok (.iadd, 1) := by decide +kernel
theorem dX2_enlist_98 : decode mX2_enlist.2.1 98 = .ok (.putfield 39, 3) := by decide +kernel
theorem dX2_enlist_101 : decode mX2_enlist.2.1 101 = .ok (.return_, 1) := by decide +kernel
theorem dX2_arrange_0 : decode mX2_arrange.2.1 0 = .ok (.aload_n 0, 1) := by decide +kernel
theorem dX2_arrange_1 : decode mX2_arrange.2.1 1 = .ok (.ldc 59, 2) := by decide +kernel
theorem dX2_arrange_3 : decode mX2_arrange.2.1 3 = .ok (.putfield 43, 3) := by decide +kernel
theorem dX2_arrange_6 : decode mX2_arrange.2.1 6 = .ok (.aload_n 0, 1) := by decide +kernel
theorem dX2_arrange_7 : decode mX2_arrange.2.1 7 = .ok (.ldc 59, 2) := by decide +kernel
theorem dX2_arrange_9 : decode mX2_arrange.2.1 9 = .ok (.putfield 46, 3) := by decide +kernel
theorem dX2_arrange_12 : decode mX2_arrange.2.1 12 = .ok (.aload_n 0, 1) := by decide +kernel
theorem dX2_arrange_13 : decode mX2_arrange.2.1 13 = .ok (.iconst 0, 1) := by decide +kernel
theorem dX2_arrange_14 : decode mX2_arrange.2.1 14 = .ok (.iconst 0, 1) := by decide +kernel
theorem dX2_arrange_15 : decode mX2_arrange.2.1 15 = .ok (.iconst 0, 1) := by decide +kernel
theorem dX2_arrange_16 : decode mX2_arrange.2.1 16 = .ok (.invokevirtual 60, 3) := by decide +kernel
theorem dX2_arrange_19 : decode mX2_arrange.2.1 19 = .ok (.iconst 0, 1) := by decide +kernel
theorem dX2_arrange_20 : decode mX2_arrange.2.1 20 = .ok (.istore_n 1, 1) := by decide +kernel
theorem dX2_arrange_21 : decode mX2_arrange.2.1 21 = .ok (.iload_n 1, 1) := by decide +kernel
theorem dX2_arrange_22 : decode mX2_arrange.2.1 22 = .ok (.aload_n 0, 1) := by decide +kernel
theorem dX2_arrange_23 : decode mX2_arrange.2.1 23 = .ok (.getfield 39, 3) := by decide +kernel
theorem dX2_arrange_26 : decode mX2_arrange.2.1 26 = .ok (.if_icmp .ge 26, 3) := by decide +kernel
theorem dX2_arrange_29 : decode mX2_arrange.2.1 29 = .ok (.aload_n 0, 1) := by decide +kernel
theorem dX2_arrange_30 : decode mX2_arrange.2.1 30 = .ok (.getfield 9, 3) := by decide +kernel
theorem dX2_arrange_33 : decode mX2_arrange.2.1 33 = .ok (.iload_n 1, 1) := by decide +kernel
theorem dX2_arrange_34 : decode mX2_arrange.2.1 34 = .ok (.aload_n 0, 1) := by decide +kernel
theorem dX2_arrange_35 : decode mX2_arrange.2.1 35 = .ok (.iload_n 1, 1) := by decide +kernel
theorem dX2_arrange_36 : decode mX2_arrange.2.1 36 = .ok (.aload_n 0, 1) := by decide +kernel
theorem dX2_arrange_37 : decode mX2_arrange.2.1 37 = .ok (.getfield 33, 3) := by decide +kernel
theorem dX2_arrange_40 : decode mX2_arrange.2.1 40 = .ok (.iload_n 1, 1) := by decide +kernel
theorem dX2_arrange_41 : decode mX2_arrange.2.1 41 = .ok (.iaload, 1) := by decide +kernel
theorem dX2_arrange_42 : decode mX2_arrange.2.1 42 = .ok (.invokevirtual 64, 3) := by decide +kernel
theorem dX2_arrange_45 : decode mX2_arrange.2.1 45 = .ok (.iastore, 1) := by decide +kernel
theorem dX2_arrange_46 : decode mX2_arrange.2.1 46 = .ok (.iinc 1 1, 3) := by decide +kernel
theorem dX2_arrange_49 : decode mX2_arrange.2.1 49 = .ok (.goto (-28), 3) := by decide +kernel
theorem dX2_arrange_52 : decode mX2_arrange.2.1 52 = .ok (.aload_n 0, 1) := by decide +kernel
theorem dX2_arrange_53 : decode mX2_arrange.2.1 53 = .ok (.getfield 43, 3) := by decide +kernel
theorem dX2_arrange_56 : decode mX2_arrange.2.1 56 = .ok (.ireturn, 1) := by decide +kernel
theorem dX2_hasPlace_0 : decode mX2_hasPlace.2.1 0 = .ok (.iload_n 1, 1) := by decide +kernel
theorem dX2_hasPlace_1 : decode mX2_hasPlace.2.1 1 = .ok (.iconst 0, 1) := by decide +kernel
theorem dX2_hasPlace_2 : decode mX2_hasPlace.2.1 2 = .ok (.aload_n 0, 1) := by decide +kernel
theorem dX2_hasPlace_3 : decode mX2_hasPlace.2.1 3 = .ok (.getfield 39, 3) := by decide +kernel
theorem dX2_hasPlace_6 : decode mX2_hasPlace.2.1 6 = .ok (.iconst 1, 1) := by decide +kernel
theorem dX2_hasPlace_7 : decode mX2_hasPlace.2.1 7 = .ok (.isub, 1) := by decide +kernel
theorem dX2_hasPlace_8 : decode mX2_hasPlace.2.1 8 = .ok (.invokestatic 68, 3) := by decide +kernel
theorem dX2_hasPlace_11 : decode mX2_hasPlace.2.1 11 = .ok (.ireturn, 1) := by decide +kernel
theorem dX2_numberAt_0 : decode mX2_numberAt.2.1 0 = .ok (.aload_n 0, 1) := by decide +kernel
theorem dX2_numberAt_1 : decode mX2_numberAt.2.1 1 = .ok (.getfield 15, 3) := by decide +kernel
theorem dX2_numberAt_4 : decode mX2_numberAt.2.1 4 = .ok (.aload_n 0, 1) := by decide +kernel
theorem dX2_numberAt_5 : decode mX2_numberAt.2.1 5 = .ok (.getfield 33, 3) := by decide +kernel
theorem dX2_numberAt_8 : decode mX2_numberAt.2.1 8 = .ok (.iload_n 1, 1) := by decide +kernel
theorem dX2_numberAt_9 : decode mX2_numberAt.2.1 9 = .ok (.iaload, 1) := by decide +kernel
theorem dX2_numberAt_10 : decode mX2_numberAt.2.1 10 = .ok (.iaload, 1) := by decide +kernel
theorem dX2_numberAt_11 : decode mX2_numberAt.2.1 11 = .ok (.ireturn, 1) := by decide +kernel
theorem dX2_placeOf_0 : decode mX2_placeOf.2.1 0 = .ok (.iconst 0, 1) := by decide +kernel
theorem dX2_placeOf_1 : decode mX2_placeOf.2.1 1 = .ok (.istore_n 2, 1) := by decide +kernel
theorem dX2_placeOf_2 : decode mX2_placeOf.2.1 2 = .ok (.iload_n 2, 1) := by decide +kernel
theorem dX2_placeOf_3 : decode mX2_placeOf.2.1 3 = .ok (.aload_n 0, 1) := by decide +kernel
theorem dX2_placeOf_4 : decode mX2_placeOf.2.1 4 = .ok (.getfield 39, 3) := by decide +kernel
theorem dX2_placeOf_7 : decode mX2_placeOf.2.1 7 = .ok (.if_icmp .ge 20, 3) := by decide +kernel
theorem dX2_placeOf_10 : decode mX2_placeOf.2.1 10 = .ok (.aload_n 0, 1) := by decide +kernel
theorem dX2_placeOf_11 : decode mX2_placeOf.2.1 11 = .ok (.iload_n 2, 1) := by decide +kernel
theorem dX2_placeOf_12 : decode mX2_placeOf.2.1 12 = .ok (.invokevirtual 72, 3) := by decide +kernel
theorem dX2_placeOf_15 : decode mX2_placeOf.2.1 15 = .ok (.iload_n 1, 1) := by decide +kernel
theorem dX2_placeOf_16 : decode mX2_placeOf.2.1 16 = .ok (.if_icmp .ne 5, 3) := by decide +kernel
theorem dX2_placeOf_19 : decode mX2_placeOf.2.1 19 = .ok (.iload_n 2, 1) := by decide +kernel
theorem dX2_placeOf_20 : decode mX2_placeOf.2.1 20 = .ok (.ireturn, 1) := by decide +kernel
theorem dX2_placeOf_21 : decode mX2_placeOf.2.1 21 = .ok (.iinc 2 1, 3) := by decide +kernel
theorem dX2_placeOf_24 : decode mX2_placeOf.2.1 24 = .ok (.goto (-22), 3) := by decide +kernel
theorem dX2_placeOf_27 : decode mX2_placeOf.2.1 27 = .ok (.iconst (-1), 1) := by decide +kernel
theorem dX2_placeOf_28 : decode mX2_placeOf.2.1 28 = .ok (.ireturn, 1) := by decide +kernel
theorem dX2_delayedBy_0 : decode mX2_delayedBy.2.1 0 = .ok (.iconst 0, 1) := by decide +kernel
theorem dX2_delayedBy_1 : decode mX2_delayedBy.2.1 1 = .ok (.istore_n 2, 1) := by decide +kernel
theorem dX2_delayedBy_2 : decode mX2_delayedBy.2.1 2 = .ok (.iconst 1, 1) := by decide +kernel
theorem dX2_delayedBy_3 : decode mX2_delayedBy.2.1 3 = .ok (.istore_n 3, 1) := by decide +kernel
theorem dX2_delayedBy_4 : decode mX2_delayedBy.2.1 4 = .ok (.aload_n 0, 1) := by decide +kernel
theorem dX2_delayedBy_5 : decode mX2_delayedBy.2.1 5 = .ok (.iconst 0, 1) := by decide +kernel
theorem dX2_delayedBy_6 : decode mX2_delayedBy.2.1 6 = .ok (.aload_n 0, 1) := by decide +kernel
theorem dX2_delayedBy_7 : decode mX2_delayedBy.2.1 7 = .ok (.getfield 33, 3) := by decide +kernel
theorem dX2_delayedBy_10 : decode mX2_delayedBy.2.1 10 = .ok (.iload_n 1, 1) := by decide +kernel
theorem dX2_delayedBy_11 : decode mX2_delayedBy.2.1 11 = .ok (.iaload, 1) := by decide +kernel
theorem dX2_delayedBy_12 : decode mX2_delayedBy.2.1 12 = .ok (.invokevirtual 64, 3) := by decide +kernel
theorem dX2_delayedBy_15 : decode mX2_delayedBy.2.1 15 = .ok (.pop, 1) := by decide +kernel
theorem dX2_delayedBy_16 : decode mX2_delayedBy.2.1 16 = .ok (.iconst 0, 1) := by decide +kernel
theorem dX2_delayedBy_17 : decode mX2_delayedBy.2.1 17 = .ok (.istore 4, 2) := by decide +kernel
theorem dX2_delayedBy_19 : decode mX2_delayedBy.2.1 19 = .ok (.iload 4, 2) := by decide +kernel
theorem dX2_delayedBy_21 : decode mX2_delayedBy.2.1 21 = .ok (.aload_n 0, 1) := by decide +kernel
theorem dX2_delayedBy_22 : decode mX2_delayedBy.2.1 22 = .ok (.getfield 39, 3) := by decide +kernel
theorem dX2_delayedBy_25 : decode mX2_delayedBy.2.1 25 = .ok (.if_icmp .ge 59, 3) := by decide +kernel
theorem dX2_delayedBy_28 : decode mX2_delayedBy.2.1 28 = .ok (.iload 4, 2) := by decide +kernel
theorem dX2_delayedBy_30 : decode mX2_delayedBy.2.1 30 = .ok (.iload_n 1, 1) := by decide +kernel
theorem dX2_delayedBy_31 : decode mX2_delayedBy.2.1 31 = .ok (.if_icmp .eq 47, 3) := by decide +kernel
theorem dX2_delayedBy_34 : decode mX2_delayedBy.2.1 34 = .ok (.aload_n 0, 1) := by decide +kernel
theorem dX2_delayedBy_35 : decode mX2_delayedBy.2.1 35 = .ok (.iload_n 3, 1) := by decide +kernel
theorem dX2_delayedBy_36 : decode mX2_delayedBy.2.1 36 = .ok (.aload_n 0, 1) := by decide +kernel
theorem dX2_delayedBy_37 : decode mX2_delayedBy.2.1 37 = .ok (.getfield 33, 3) := by decide +kernel
theorem dX2_delayedBy_40 : decode mX2_delayedBy.2.1 40 = .ok (.iload 4, 2) := by decide +kernel
theorem dX2_delayedBy_42 : decode mX2_delayedBy.2.1 42 = .ok (.iaload, 1) := by decide +kernel
theorem dX2_delayedBy_43 : decode mX2_delayedBy.2.1 43 = .ok (.invokevirtual 64, 3) := by decide +kernel
theorem dX2_delayedBy_46 : decode mX2_delayedBy.2.1 46 = .ok (.istore 5, 2) := by decide +kernel
theorem dX2_delayedBy_48 : decode mX2_delayedBy.2.1 48 = .ok (.iinc 3 1, 3) := by decide +kernel
theorem dX2_delayedBy_51 : decode mX2_delayedBy.2.1 51 = .ok (.iload_n 2, 1) := by decide +kernel
theorem dX2_delayedBy_52 : decode mX2_delayedBy.2.1 52 = .ok (.iload 5, 2) := by decide +kernel
theorem dX2_delayedBy_54 : decode mX2_delayedBy.2.1 54 = .ok (.aload_n 0, 1) := by decide +kernel
theorem dX2_delayedBy_55 : decode mX2_delayedBy.2.1 55 = .ok (.getfield 9, 3) := by decide +kernel
theorem dX2_delayedBy_58 : decode mX2_delayedBy.2.1 58 = .ok (.iload 4, 2) := by decide +kernel
theorem dX2_delayedBy_60 : decode mX2_delayedBy.2.1 60 = .ok (.iaload, 1) := by decide +kernel
theorem dX2_delayedBy_61 : decode mX2_delayedBy.2.1 61 = .ok (.if_icmp .le 14, 3) := by decide +kernel
theorem dX2_delayedBy_64 : decode mX2_delayedBy.2.1 64 = .ok (.iconst 1, 1) := by decide +kernel
theorem dX2_delayedBy_65 : decode mX2_delayedBy.2.1 65 = .ok (.aload_n 0, 1) := by decide +kernel
theorem dX2_delayedBy_66 : decode mX2_delayedBy.2.1 66 = .ok (.iload 4, 2) := by decide +kernel
theorem dX2_delayedBy_68 : decode mX2_delayedBy.2.1 68 = .ok (.invokevirtual 72, 3) := by decide +kernel
theorem dX2_delayedBy_71 : decode mX2_delayedBy.2.1 71 = .ok (.ishl, 1) := by decide +kernel
theorem dX2_delayedBy_72 : decode mX2_delayedBy.2.1 72 = .ok (.goto 4, 3) := by decide +kernel
theorem dX2_delayedBy_75 : decode mX2_delayedBy.2.1 75 = .ok (.iconst 0, 1) := by decide +kernel
theorem dX2_delayedBy_76 : decode mX2_delayedBy.2.1 76 = .ok (.ior, 1) := by decide +kernel
theorem dX2_delayedBy_77 : decode mX2_delayedBy.2.1 77 = .ok (.istore_n 2, 1) := by decide +kernel
theorem dX2_delayedBy_78 : decode mX2_delayedBy.2.1 78 = .ok (.iinc 4 1, 3) := by decide +kernel
theorem dX2_delayedBy_81 : decode mX2_delayedBy.2.1 81 = .ok (.goto (-62), 3) := by decide +kernel
theorem dX2_delayedBy_84 : decode mX2_delayedBy.2.1 84 = .ok (.iload_n 2, 1) := by decide +kernel
theorem dX2_delayedBy_85 : decode mX2_delayedBy.2.1 85 = .ok (.ireturn, 1) := by decide +kernel
theorem dX2_search_0 : decode mX2_search.2.1 0 = .ok (.iload_n 1, 1) := by decide +kernel
theorem dX2_search_1 : decode mX2_search.2.1 1 = .ok (.aload_n 0, 1) := by decide +kernel
theorem dX2_search_2 : decode mX2_search.2.1 2 = .ok (.getfield 39, 3) := by decide +kernel
theorem dX2_search_5 : decode mX2_search.2.1 5 = .ok (.if_icmp .lt 4, 3) := by decide +kernel
theorem dX2_search_8 : decode mX2_search.2.1 8 = .ok (.return_, 1) := by decide +kernel
theorem dX2_search_9 : decode mX2_search.2.1 9 = .ok (.iconst 0, 1) := by decide +kernel
theorem dX2_search_10 : decode mX2_search.2.1 10 = .ok (.istore 4, 2) := by decide +kernel
theorem dX2_search_12 : decode mX2_search.2.1 12 = .ok (.iload 4, 2) := by decide +kernel
theorem dX2_search_14 : decode mX2_search.2.1 14 = .ok (.aload_n 0, 1) := by decide +kernel
theorem dX2_search_15 : decode mX2_search.2.1 15 = .ok (.getfield 39, 3) := by decide +kernel
theorem dX2_search_18 : decode mX2_search.2.1 18 = .ok (.if_icmp .ge 131, 3) := by decide +kernel
theorem dX2_search_21 : decode mX2_search.2.1 21 = .ok (.iload_n 2, 1) := by decide +kernel
theorem dX2_search_22 : decode mX2_search.2.1 22 = .ok (.iload 4, 2) := by decide +kernel
theorem dX2_search_24 : decode mX2_search.2.1 24 = .ok (.ishr, 1) := by decide +kernel
theorem dX2_search_25 : decode mX2_search.2.1 25 = .ok (.iconst 1, 1) := by decide +kernel
theorem dX2_search_26 : decode mX2_search.2.1 26 = .ok (.iand, 1) := by decide +kernel
theorem dX2_search_27 : decode mX2_search.2.1 27 = .ok (.iconst 1, 1) := by decide +kernel
theorem dX2_search_28 : decode mX2_search.2.1 28 = .ok (.if_icmp .ne 6, 3) := by decide +kernel
theorem dX2_search_31 : decode mX2_search.2.1 31 = .ok (.goto 112, 3) := by decide +kernel
theorem dX2_search_34 : decode mX2_search.2.1 34 = .ok (.aload_n 0, 1) := by decide +kernel
theorem dX2_search_35 : decode mX2_search.2.1 35 = .ok (.iload_n 1, 1) := by decide +kernel
theorem dX2_search_36 : decode mX2_search.2.1 36 = .ok (.iload 4, 2) := by decide +kernel
theorem dX2_search_38 : decode mX2_search.2.1 38 = .ok (.invokevirtual 64, 3) := by decide +kernel
theorem dX2_search_41 : decode mX2_search.2.1 41 = .ok (.istore 5, 2) := by decide +kernel
theorem dX2_search_43 : decode mX2_search.2.1 43 = .ok (.iload_n 3, 1) := by decide +kernel
theorem dX2_search_44 : decode mX2_search.2.1 44 = .ok (.aload_n 0, 1) := by decide +kernel
theorem dX2_search_45 : decode mX2_search.2.1 45 = .ok (.getfield 27, 3) := by decide +kernel
theorem dX2_search_48 : decode mX2_search.2.1 48 = .ok (.iload 4, 2) := by decide +kernel
theorem dX2_search_50 : decode mX2_search.2.1 50 = .ok (.iaload, 1) := by decide +kernel
theorem dX2_search_51 : decode mX2_search.2.1 51 = .ok (.iconst 0, 1) := by decide +kernel
theorem dX2_search_52 : decode mX2_search.2.1 52 = .ok (.iload 5, 2) := by decide +kernel
theorem dX2_search_54 : decode mX2_search.2.1 54 = .ok (.aload_n 0, 1) := by decide +kernel
theorem dX2_search_55 : decode mX2_search.2.1 55 = .ok (.getfield 24, 3) := by decide +kernel
theorem dX2_search_58 : decode mX2_search.2.1 58 = .ok (.iload 4, 2) := by decide +kernel
theorem dX2_search_60 : decode mX2_search.2.1 60 = .ok (.iaload, 1) := by decide +kernel
theorem dX2_search_61 : decode mX2_search.2.1 61 = .ok (.isub, 1) := by decide +kernel
theorem dX2_search_62 : decode mX2_search.2.1 62 = .ok (.invokestatic 76, 3) := by decide +kernel
theorem dX2_search_65 : decode mX2_search.2.1 65 = .ok (.imul, 1) := by decide +kernel
theorem dX2_search_66 : decode mX2_search.2.1 66 = .ok (.iadd, 1) := by decide +kernel
theorem dX2_search_67 : decode mX2_search.2.1 67 = .ok (.istore 6, 2) := by decide +kernel
theorem dX2_search_69 : decode mX2_search.2.1 69 = .ok (.iload 6, 2) := by decide +kernel
theorem dX2_search_71 : decode mX2_search.2.1 71 = .ok (.aload_n 0, 1) := by decide +kernel
theorem dX2_search_72 : decode mX2_search.2.1 72 = .ok (.getfield 43, 3) := by decide +kernel
theorem dX2_search_75 : decode mX2_search.2.1 75 = .ok (.if_icmp .gt 68, 3) := by decide +kernel
theorem dX2_search_78 : decode mX2_search.2.1 78 = .ok (.iload 6, 2) := by decide +kernel
theorem dX2_search_80 : decode mX2_search.2.1 80 = .ok (.aload_n 0, 1) := by decide +kernel
theorem dX2_search_81 : decode mX2_search.2.1 81 = .ok (.getfield 43, 3) := by decide +kernel
theorem dX2_search_84 : decode mX2_search.2.1 84 = .ok (.if_icmp .ne 15, 3) := by decide +kernel
theorem dX2_search_87 : decode mX2_search.2.1 87 = .ok (.iload 5, 2) := by decide +kernel
theorem dX2_search_89 : decode mX2_search.2.1 89 = .ok (.aload_n 0, 1) := by decide +kernel
theorem dX2_search_90 : decode mX2_search.2.1 90 = .ok (.getfield 46, 3) := by decide +kernel
theorem dX2_search_93 : decode mX2_search.2.1 93 = .ok (.if_icmp .lt 6, 3) := by decide +kernel
theorem dX2_search_96 : decode mX2_search.2.1 96 = .ok (.goto 47, 3) := by decide +kernel
theorem dX2_search_99 : decode mX2_search.2.1 99 = .ok (.aload_n 0, 1) := by decide +kernel
theorem dX2_search_100 : decode mX2_search.2.1 100 = .ok (.getfield 30, 3) := by decide +kernel
theorem dX2_search_103 : decode mX2_search.2.1 103 = .ok (.iload_n 1, 1) := by decide +kernel
theorem dX2_search_104 : decode mX2_search.2.1 104 = .ok (.iload 4, 2) := by decide +kernel
theorem dX2_search_106 : decode mX2_search.2.1 106 = .ok (.iastore, 1) := by decide +kernel
theorem dX2_search_107 : decode mX2_search.2.1 107 = .ok (.iload_n 1, 1) := by decide +kernel
theorem dX2_search_108 : decode mX2_search.2.1 108 = .ok (.iconst 1, 1) := by decide +kernel
theorem dX2_search_109 : decode mX2_search.2.1 109 = .ok (.iadd, 1) := by decide +kernel
theorem dX2_search_110 : decode mX2_search.2.1 110 = .ok (.aload_n 0, 1) := by decide +kernel
theorem dX2_search_111 : decode mX2_search.2.1 111 = .ok (.getfield 39, 3) := by decide +kernel
theorem dX2_search_114 : decode mX2_search.2.1 114 = .ok (.if_icmp .ne 14, 3) := by decide +kernel
theorem dX2_search_117 : decode mX2_search.2.1 117 = .ok (.aload_n 0, 1) := by decide +kernel
theorem dX2_search_118 : decode mX2_search.2.1 118 = .ok (.iload 6, 2) := by decide +kernel
theorem dX2_search_120 : decode mX2_search.2.1 120 = .ok (.iload 5, 2) := by decide +kernel
theorem dX2_search_122 : decode mX2_search.2.1 122 = .ok (.invokevirtual 81, 3) := by decide +kernel
theorem dX2_search_125 : decode mX2_search.2.1 125 = .ok (.goto 18, 3) := by decide +kernel
theorem dX2_search_128 : decode mX2_search.2.1 128 = .ok (.aload_n 0, 1) := by decide +kernel
theorem dX2_search_129 : decode mX2_search.2.1 129 = .ok (.iload_n 1, 1) := by decide +kernel
theorem dX2_search_130 : decode mX2_search.2.1 130 = .ok (.iconst 1, 1) := by decide +kernel
theorem dX2_search_131 : decode mX2_search.2.1 131 = .ok (.iadd, 1) := by decide +kernel
theorem dX2_search_132 : decode mX2_search.2.1 132 = .ok (.iload_n 2, 1) := by decide +kernel
theorem dX2_search_133 : decode mX2_search.2.1 133 = .ok (.iconst 1, 1) := by decide +kernel
theorem dX2_search_134 : decode mX2_search.2.1 134 = .ok (.iload 4, 2) := by decide +kernel
theorem dX2_search_136 : decode mX2_search.2.1 136 = .ok (.ishl, 1) := by decide +kernel
theorem dX2_search_137 : decode mX2_search.2.1 137 = .ok (.ior, 1) := by decide +kernel
theorem dX2_search_138 : decode mX2_search.2.1 138 = .ok (.iload 6, 2) := by decide +kernel
theorem dX2_search_140 : decode mX2_search.2.1 140 = .ok (.invokevirtual 60, 3) := by decide +kernel
theorem dX2_search_143 : decode mX2_search.2.1 143 = .ok (.iinc 4 1, 3) := by decide +kernel
theorem dX2_search_146 : decode mX2_search.2.1 146 = .ok (.goto (-134), 3) := by decide +kernel
theorem dX2_search_149 : decode mX2_search.2.1 149 = .ok (.return_, 1) := by decide +kernel
theorem dX2_keepTrial_0 : decode mX2_keepTrial.2.1 0 = .ok (.aload_n 0, 1) := by decide +kernel
theorem dX2_keepTrial_1 : decode mX2_keepTrial.2.1 1 = .ok (.iload_n 1, 1) := by decide +kernel
theorem dX2_keepTrial_2 : decode mX2_keepTrial.2.1 2 = .ok (.putfield 43, 3) := by decide +kernel
theorem dX2_keepTrial_5 : decode mX2_keepTrial.2.1 5 = .ok (.aload_n 0, 1) := by decide +kernel
theorem dX2_keepTrial_6 : decode mX2_keepTrial.2.1 6 = .ok (.iload_n 2, 1) := by decide +kernel
theorem dX2_keepTrial_7 : decode mX2_keepTrial.2.1 7 = .ok (.putfield 46, 3) := by decide +kernel
theorem dX2_keepTrial_10 : decode mX2_keepTrial.2.1 10 = .ok (.iconst 0, 1) := by decide +kernel
theorem dX2_keepTrial_11 : decode mX2_keepTrial.2.1 11 = .ok (.istore_n 3, 1) := by decide +kernel
theorem dX2_keepTrial_12 : decode mX2_keepTrial.2.1 12 = .ok (.iload_n 3, 1) := by decide +kernel
theorem dX2_keepTrial_13 : decode mX2_keepTrial.2.1 13 = .ok (.aload_n 0, 1) := by decide +kernel
theorem dX2_keepTrial_14 : decode mX2_keepTrial.2.1 14 = .ok (.getfield 39, 3) := by decide +kernel
theorem dX2_keepTrial_17 : decode mX2_keepTrial.2.1 17 = .ok (.if_icmp .ge 21, 3) := by decide +kernel
theorem dX2_keepTrial_20 : decode mX2_keepTrial.2.1 20 = .ok (.aload_n 0, 1) := by decide +kernel
theorem dX2_keepTrial_21 : decode mX2_keepTrial.2.1 21 = .ok (.getfield 33, 3) := by decide +kernel
theorem dX2_keepTrial_24 : decode mX2_keepTrial.2.1 24 = .ok (.iload_n 3, 1) := by decide +kernel
theorem dX2_keepTrial_25 : decode mX2_keepTrial.2.1 25 = .ok (.aload_n 0, 1) := by decide +kernel
theorem dX2_keepTrial_26 : decode mX2_keepTrial.2.1 26 = .ok (.getfield 30, 3) := by decide +kernel
theorem dX2_keepTrial_29 : decode mX2_keepTrial.2.1 29 = .ok (.iload_n 3, 1) := by decide +kernel
theorem dX2_keepTrial_30 : decode mX2_keepTrial.2.1 30 = .ok (.iaload, 1) := by decide +kernel
theorem dX2_keepTrial_31 : decode mX2_keepTrial.2.1 31 = .ok (.iastore, 1) := by decide +kernel
theorem dX2_keepTrial_32 : decode mX2_keepTrial.2.1 32 = .ok (.iinc 3 1, 3) := by decide +kernel
theorem dX2_keepTrial_35 : decode mX2_keepTrial.2.1 35 = .ok (.goto (-23), 3) := by decide +kernel
theorem dX2_keepTrial_38 : decode mX2_keepTrial.2.1 38 = .ok (.return_, 1) := by decide +kernel
theorem dX2_work_0 : decode mX2_work.2.1 0 = .ok (.iconst 0, 1) := by decide +kernel
theorem dX2_work_1 : decode mX2_work.2.1 1 = .ok (.istore_n 3, 1) := by decide +kernel
theorem dX2_work_2 : decode mX2_work.2.1 2 = .ok (.iconst 0, 1) := by decide +kernel
theorem dX2_work_3 : decode mX2_work.2.1 3 = .ok (.istore 4, 2) := by decide +kernel
theorem dX2_work_5 : decode mX2_work.2.1 5 = .ok (.iload 4, 2) := by decide +kernel
theorem dX2_work_7 : decode mX2_work.2.1 7 = .ok (.iconst 5, 1) := by decide +kernel
theorem dX2_work_8 : decode mX2_work.2.1 8 = .ok (.if_icmp .ge 70, 3) := by decide +kernel
theorem dX2_work_11 : decode mX2_work.2.1 11 = .ok (.iload 4, 2) := by decide +kernel
theorem dX2_work_13 : decode mX2_work.2.1 13 = .ok (.iconst 3, 1) := by decide +kernel
theorem dX2_work_14 : decode mX2_work.2.1 14 = .ok (.if_icmp .ne 12, 3) := by decide +kernel
theorem dX2_work_17 : decode mX2_work.2.1 17 = .ok (.iload_n 3, 1) := by decide +kernel
theorem dX2_work_18 : decode mX2_work.2.1 18 = .ok (.aload_n 0, 1) := by decide +kernel
theorem dX2_work_19 : decode mX2_work.2.1 19 = .ok (.getfield 21, 3) := by decide +kernel
theorem dX2_work_22 : decode mX2_work.2.1 22 = .ok (.iload_n 2, 1) := by decide +kernel
theorem dX2_work_23 : decode mX2_work.2.1 23 = .ok (.iaload, 1) := by decide +kernel
theorem dX2_work_24 : decode mX2_work.2.1 24 = .ok (.iadd, 1) := by decide +kernel
theorem dX2_work_25 : decode mX2_work.2.1 25 = .ok (.istore_n 3, 1) := by decide +kernel
theorem dX2_work_26 : decode mX2_work.2.1 26 = .ok (.iload_n 3, 1) := by decide +kernel
theorem dX2_work_27 : decode mX2_work.2.1 27 = .ok (.aload_n 0, 1) := by decide +kernel
theorem dX2_work_28 : decode mX2_work.2.1 28 = .ok (.getfield 36, 3) := by decide +kernel
theorem dX2_work_31 : decode mX2_work.2.1 31 = .ok (.iload_n 1, 1) := by decide +kernel
theorem dX2_work_32 : decode mX2_work.2.1 32 = .ok (.iconst 5, 1) := by decide +kernel
theorem dX2_work_33 : decode mX2_work.2.1 33 = .ok (.imul, 1) := by decide +kernel
theorem dX2_work_34 : decode mX2_work.2.1 34 = .ok (.iload 4, 2) := by decide +kernel
theorem dX2_work_36 : decode mX2_work.2.1 36 = .ok (.iadd, 1) := by decide +kernel
theorem dX2_work_37 : decode mX2_work.2.1 37 = .ok (.iaload, 1) := by decide +kernel
theorem dX2_work_38 : decode mX2_work.2.1 38 = .ok (.invokestatic 76, 3) := by decide +kernel
theorem dX2_work_41 : decode mX2_work.2.1 41 = .ok (.istore 5, 2) := by decide +kernel
theorem dX2_work_43 : decode mX2_work.2.1 43 = .ok (.iload 5, 2) := by decide +kernel
theorem dX2_work_45 : decode mX2_work.2.1 45 = .ok (.aload_n 0, 1) := by decide +kernel
theorem dX2_work_46 : decode mX2_work.2.1 46 = .ok (.getfield 18, 3) := by decide +kernel
theorem dX2_work_49 : decode mX2_work.2.1 49 = .ok (.iload_n 2, 1) := by decide +kernel
theorem dX2_work_50 : decode mX2_work.2.1 50 = .ok (.iconst 5, 1) := by decide +kernel
theorem dX2_work_51 : decode mX2_work.2.1 51 = .ok (.imul, 1) := by decide +kernel
theorem dX2_work_52 : decode mX2_work.2.1 52 = .ok (.iload 4, 2) := by decide +kernel
theorem dX2_work_54 : decode mX2_work.2.1 54 = .ok (.iadd, 1) := by decide +kernel
theorem dX2_work_55 : decode mX2_work.2.1 55 = .ok (.iaload, 1) := by decide +kernel
theorem dX2_work_56 : decode mX2_work.2.1 56 = .ok (.iadd, 1) := by decide +kernel
theorem dX2_work_57 : decode mX2_work.2.1 57 = .ok (.istore_n 3, 1) := by decide +kernel
theorem dX2_work_58 : decode mX2_work.2.1 58 = .ok (.aload_n 0, 1) := by decide +kernel
theorem dX2_work_59 : decode mX2_work.2.1 59 = .ok (.getfield 36, 3) := by decide +kernel
theorem dX2_work_62 : decode mX2_work.2.1 62 = .ok (.iload_n 1, 1) := by decide +kernel
theorem dX2_work_63 : decode mX2_work.2.1 63 = .ok (.iconst 1, 1) := by decide +kernel
theorem dX2_work_64 : decode mX2_work.2.1 64 = .ok (.iadd, 1) := by decide +kernel
theorem dX2_work_65 : decode mX2_work.2.1 65 = .ok (.iconst 5, 1) := by decide +kernel
theorem dX2_work_66 : decode mX2_work.2.1 66 = .ok (.imul, 1) := by decide +kernel
theorem dX2_work_67 : decode mX2_work.2.1 67 = .ok (.iload 4, 2) := by decide +kernel
theorem dX2_work_69 : decode mX2_work.2.1 69 = .ok (.iadd, 1) := by decide +kernel
theorem dX2_work_70 : decode mX2_work.2.1 70 = .ok (.iload_n 3, 1) := by decide +kernel
theorem dX2_work_71 : decode mX2_work.2.1 71 = .ok (.iastore, 1) := by decide +kernel
theorem dX2_work_72 : decode mX2_work.2.1 72 = .ok (.iinc 4 1, 3) := by decide +kernel
theorem dX2_work_75 : decode mX2_work.2.1 75 = .ok (.goto (-70), 3) := by decide +kernel
theorem dX2_work_78 : decode mX2_work.2.1 78 = .ok (.iload_n 3, 1) := by decide +kernel
theorem dX2_work_79 : decode mX2_work.2.1 79 = .ok (.ireturn, 1) := by decide +kernel
end
section
theorem dX6_init_0 : decode mX6_init.2.1 0 = .ok (.aload_n 0, 1) := by decide +kernel
theorem dX6_init_1 : decode mX6_init.2.1 1 = .ok (.invokespecial 1, 3) := by decide +kernel
theorem dX6_init_4 : decode mX6_init.2.1 4 = .ok (.aload_n 0, 1) := by decide +kernel
theorem dX6_init_5 : decode mX6_init.2.1 5 = .ok (.bipush 10, 2) := by decide +kernel
theorem dX6_init_7 : decode mX6_init.2.1 7 = .ok (.newarray .int, 2) := by decide +kernel
theorem dX6_init_9 : decode mX6_init.2.1 9 = .ok (.putfield 7, 3) := by decide +kernel
theorem dX6_init_12 : decode mX6_init.2.1 12 = .ok (.aload_n 0, 1) := by decide +kernel
theorem dX6_init_13 : decode mX6_init.2.1 13 = .ok (.bipush 10, 2) := by decide +kernel
theorem dX6_init_15 : decode mX6_init.2.1 15 = .ok (.newarray .int, 2) := by decide +kernel
theorem dX6_init_17 : decode mX6_init.2.1 17 = .ok (.putfield 13, 3) := by decide +kernel
theorem dX6_init_20 : decode mX6_init.2.1 20 = .ok (.aload_n 0, 1) := by decide +kernel
theorem dX6_init_21 : decode mX6_init.2.1 21 = .ok (.bipush 60, 2) := by decide +kernel
theorem dX6_init_23 : decode mX6_init.2.1 23 = .ok (.newarray .int, 2) := by decide +kernel
theorem dX6_init_25 : decode mX6_init.2.1 25 = .ok (.putfield 16, 3) := by decide +kernel
theorem dX6_init_28 : decode mX6_init.2.1 28 = .ok (.aload_n 0, 1) := by decide +kernel
theorem dX6_init_29 : decode mX6_init.2.1 29 = .ok (.bipush 60, 2) := by decide +kernel
theorem dX6_init_31 : decode mX6_init.2.1 31 = .ok (.newarray .int, 2) := by decide +kernel
theorem dX6_init_33 : decode mX6_init.2.1 33 = .ok (.putfield 19, 3) := by decide +kernel
theorem dX6_init_36 : decode mX6_init.2.1 36 = .ok (.aload_n 0, 1) := by decide +kernel
theorem dX6_init_37 : decode mX6_init.2.1 37 = .ok (.bipush 60, 2) := by decide +kernel
theorem dX6_init_39 : decode mX6_init.2.1 39 = .ok (.newarray .boolean, 2) := by decide +kernel
theorem dX6_init_41 : decode mX6_init.2.1 41 = .ok (.putfield 22, 3) := by decide +kernel
theorem dX6_init_44 : decode mX6_init.2.1 44 = .ok (.aload_n 0, 1) := by decide +kernel
theorem dX6_init_45 : decode mX6_init.2.1 45 = .ok (.bipush 50, 2) := by decide +kernel
theorem dX6_init_47 : decode mX6_init.2.1 47 = .ok (.newarray .int, 2) := by decide +kernel
theorem dX6_init_49 : decode mX6_init.2.1 49 = .ok (.putfield 26, 3) := by decide +kernel
theorem dX6_init_52 : decode mX6_init.2.1 52 = .ok (.aload_n 0, 1) := by decide +kernel
theorem dX6_init_53 : decode mX6_init.2.1 53 = .ok (.bipush 50, 2) := by decide +kernel
theorem dX6_init_55 : decode mX6_init.2.1 55 = .ok (.newarray .int, 2) := by decide +kernel
theorem dX6_init_57 : decode mX6_init.2.1 57 = .ok (.putfield 29, 3) := by decide +kernel
theorem dX6_init_60 : decode mX6_init.2.1 60 = .ok (.aload_n 0, 1) := by decide +kernel
theorem dX6_init_61 : decode mX6_init.2.1 61 = .ok (.bipush 50, 2) := by decide +kernel
theorem dX6_init_63 : decode mX6_init.2.1 63 = .ok (.newarray .int, 2) := by decide +kernel
theorem dX6_init_65 : decode mX6_init.2.1 65 = .ok (.putfield 32, 3) := by decide +kernel
theorem dX6_init_68 : decode mX6_init.2.1 68 = .ok (.aload_n 0, 1) := by decide +kernel
theorem dX6_init_69 : decode mX6_init.2.1 69 = .ok (.bipush 10, 2) := by decide +kernel
theorem dX6_init_71 : decode mX6_init.2.1 71 = .ok (.newarray .int, 2) := by decide +kernel
theorem dX6_init_73 : decode mX6_init.2.1 73 = .ok (.putfield 35, 3) := by decide +kernel
theorem dX6_init_76 : decode mX6_init.2.1 76 = .ok (.aload_n 0, 1) := by decide +kernel
theorem dX6_init_77 : decode mX6_init.2.1 77 = .ok (.bipush 10, 2) := by decide +kernel
theorem dX6_init_79 : decode mX6_init.2.1 79 = .ok (.newarray .int, 2) := by decide +kernel
theorem dX6_init_81 : decode mX6_init.2.1 81 = .ok (.putfield 38, 3) := by decide +kernel
theorem dX6_init_84 : decode mX6_init.2.1 84 = .ok (.aload_n 0, 1) := by decide +kernel
theorem dX6_init_85 : decode mX6_init.2.1 85 = .ok (.bipush 10, 2) := by decide +kernel
theorem dX6_init_87 : decode mX6_init.2.1 87 = .ok (.newarray .int, 2) := by decide +kernel
theorem dX6_init_89 : decode mX6_init.2.1 89 = .ok (.putfield 41, 3) := by decide +kernel
theorem dX6_init_92 : decode mX6_init.2.1 92 = .ok (.aload_n 0, 1) := by decide +kernel
theorem dX6_init_93 : decode mX6_init.2.1 93 = .ok (.bipush 50, 2) := by decide +kernel
theorem dX6_init_95 : decode mX6_init.2.1 95 = .ok (.newarray .int, 2) := by decide +kernel
theorem dX6_init_97 : decode mX6_init.2.1 97 = .ok (.putfield 44, 3) := by decide +kernel
theorem dX6_init_100 : decode mX6_init.2.1 100 = .ok (.aload_n 0, 1) := by decide +kernel
theorem dX6_init_101 : decode mX6_init.2.1 101 = .ok (.bipush 50, 2) := by decide +kernel
theorem dX6_init_103 : decode mX6_init.2.1 103 = .ok (.newarray .int, 2) := by decide +kernel
theorem dX6_init_105 : decode mX6_init.2.1 105 = .ok (.putfield 47, 3) := by decide +kernel
theorem dX6_init_108 : decode mX6_init.2.1 108 = .ok (.aload_n 0, 1) := by decide +kernel
theorem dX6_init_109 : decode mX6_init.2.1 109 = .ok (.bipush 7, 2) := by decide +kernel
theorem dX6_init_111 : decode mX6_init.2.1 111 = .ok (.newarray .int, 2) := by decide +kernel
theorem dX6_init_113 : decode mX6_init.2.1 113 = .ok (.putfield 50, 3) := by decide +kernel
theorem dX6_init_116 : decode mX6_init.2.1 116 = .ok (.aload_n 0, 1) := by decide +kernel
theorem dX6_init_117 : decode mX6_init.2.1 117 = .ok (.bipush 7, 2) := by decide +kernel
theorem dX6_init_119 : decode mX6_init.2.1 119 = .ok (.newarray .int, 2) := by decide +kernel
theorem dX6_init_121 : decode mX6_init.2.1 121 = .ok (.putfield 53, 3) := by decide +kernel
theorem dX6_init_124 : decode mX6_init.2.1 124 = .ok (.aload_n 0, 1) := by decide +kernel
theorem dX6_init_125 : decode mX6_init.2.1 125 = .ok (.bipush 50, 2) := by decide +kernel
theorem dX6_init_127 : decode mX6_init.2.1 127 = .ok (.newarray .int, 2) := by decide +kernel
theorem dX6_init_129 : decode mX6_init.2.1 129 = .ok (.putfield 56, 3) := by decide +kernel
theorem dX6_init_132 : decode mX6_init.2.1 132 = .ok (.aload_n 0, 1) := by decide +kernel
theorem dX6_init_133 : decode mX6_init.2.1 133 = .ok (.bipush 10, 2) := by decide +kernel
theorem dX6_init_135 : decode mX6_init.2.1 135 = .ok (.newarray .int, 2) := by decide +kernel
theorem dX6_init_137 : decode mX6_init.2.1 137 = .ok (.putfield 59, 3) := by decide +kernel
theorem dX6_init_140 : decode mX6_init.2.1 140 = .ok (.aload_n 0, 1) := by decide +kernel
theorem dX6_init_141 : decode mX6_init.2.1 141 = .ok (.bipush 7, 2) := by decide +kernel
theorem dX6_init_143 : decode mX6_init.2.1 143 = .ok (.newarray .int, 2) := by decide +kernel
theorem dX6_init_145 : decode mX6_init.2.1 145 = .ok (.putfield 62, 3) := by decide +kernel
theorem dX6_init_148 : decode mX6_init.2.1 148 = .ok (.aload_n 0, 1) := by decide +kernel
theorem dX6_init_149 : decode mX6_init.2.1 149 = .ok (.bipush 7, 2) := by decide +kernel
theorem dX6_init_151 : decode mX6_init.2.1 151 = .ok (.newarray .int, 2) := by decide +kernel
theorem dX6_init_153 : decode mX6_init.2.1 153 = .ok (.putfield 65, 3) := by decide +kernel
theorem dX6_init_156 : decode mX6_init.2.1 156 = .ok (.aload_n 0, 1) := by decide +kernel
theorem dX6_init_157 : decode mX6_init.2.1 157 = .ok (.iconst 5, 1) := by decide +kernel
theorem dX6_init_158 : decode mX6_init.2.1 158 = .ok (.newarray .int, 2) := by decide +kernel
theorem dX6_init_160 : decode mX6_init.2.1 160 = .ok (.putfield 68, 3) := by decide +kernel
theorem dX6_init_163 : decode mX6_init.2.1 163 = .ok (.aload_n 0, 1) := by decide +kernel
theorem dX6_init_164 : decode mX6_init.2.1 164 = .ok (.bipush 27, 2) := by decide +kernel
theorem dX6_init_166 : decode mX6_init.2.1 166 = .ok (.newarray .int, 2) := by decide +kernel
theorem dX6_init_168 : decode mX6_init.2.1 168 = .ok (.putfield 71, 3) := by decide +kernel
theorem dX6_init_171 : decode mX6_init.2.1 171 = .ok (.aload_n 0, 1) := by decide +kernel
theorem dX6_init_172 : decode mX6_init.2.1 172 = .ok (.bipush 40, 2) := by decide +kernel
theorem dX6_init_174 : decode mX6_init.2.1 174 = .ok (.newarray .int, 2) := by decide +kernel
theorem dX6_init_176 : decode mX6_init.2.1 176 = .ok (.putfield 74, 3) := by decide +kernel
theorem dX6_init_179 : decode mX6_init.2.1 179 = .ok (.aload_n 0, 1) := by decide +kernel
theorem dX6_init_180 : decode mX6_init.2.1 180 = .ok (.bipush 20, 2) := by decide +kernel
theorem dX6_init_182 : decode mX6_init.2.1 182 = .ok (.newarray .int, 2) := by decide +kernel
theorem dX6_init_184 : decode mX6_init.2.1 184 = .ok (.putfield 77, 3) := by decide +kernel
theorem dX6_init_187 : decode mX6_init.2.1 187 = .ok (.aload_n 0, 1) := by decide +kernel
theorem dX6_init_188 : decode mX6_init.2.1 188 = .ok (.sipush 147, 3) := by decide +kernel
theorem dX6_init_191 : decode mX6_init.2.1 191 = .ok (.newarray .int, 2) := by decide +kernel
theorem dX6_init_193 : decode mX6_init.2.1 193 = .ok (.putfield 80, 3) := by decide +kernel
theorem dX6_init_196 : decode mX6_init.2.1 196 = .ok (.aload_n 0, 1) := by decide +kernel
theorem dX6_init_197 : decode mX6_init.2.1 197 = .ok (.bipush 6, 2) := by decide +kernel
theorem dX6_init_199 : decode mX6_init.2.1 199 = .ok (.newarray .int, 2) := by decide +kernel
theorem dX6_init_201 : decode mX6_init.2.1 201 = .ok (.putfield 83, 3) := by decide +kernel
theorem dX6_init_204 : decode mX6_init.2.1 204 = .ok (.aload_n 0, 1) := by decide +kernel
theorem dX6_init_205 : decode mX6_init.2.1 205 = .ok (.bipush 27, 2) := by decide +kernel
theorem dX6_init_207 : decode mX6_init.2.1 207 = .ok (.newarray .int, 2) := by decide +kernel
theorem dX6_init_209 : decode mX6_init.2.1 209 = .ok (.putfield 86, 3) := by decide +kernel
theorem dX6_init_212 : decode mX6_init.2.1 212 = .ok (.aload_n 0, 1) := by decide +kernel
theorem dX6_init_213 : decode mX6_init.2.1 213 = .ok (.bipush 100, 2) := by decide +kernel
theorem dX6_init_215 : decode mX6_init.2.1 215 = .ok (.putfield 89, 3) := by decide +kernel
theorem dX6_init_218 : decode mX6_init.2.1 218 = .ok (.aload_n 0, 1) := by decide +kernel
theorem dX6_init_219 : decode mX6_init.2.1 219 = .ok (.bipush 6, 2) := by decide +kernel
theorem dX6_init_221 : decode mX6_init.2.1 221 = .ok (.newarray .int, 2) := by decide +kernel
theorem dX6_init_223 : decode mX6_init.2.1 223 = .ok (.putfield 93, 3) := by decide +kernel
theorem dX6_init_226 : decode mX6_init.2.1 226 = .ok (.aload_n 0, 1) := by decide +kernel
theorem dX6_init_227 : decode mX6_init.2.1 227 = .ok (.bipush 6, 2) := by decide +kernel
theorem dX6_init_229 : decode mX6_init.2.1 229 = .ok (.newarray .int, 2) := by decide +kernel
theorem dX6_init_231 : decode mX6_init.2.1 231 = .ok (.putfield 96, 3) := by decide +kernel
theorem dX6_init_234 : decode mX6_init.2.1 234 = .ok (.aload_n 0, 1) := by decide +kernel
theorem dX6_init_235 : decode mX6_init.2.1 235 = .ok (.bipush 6, 2) := by decide +kernel
theorem dX6_init_237 : decode mX6_init.2.1 237 = .ok (.newarray .int, 2) := by decide +kernel
theorem dX6_init_239 : decode mX6_init.2.1 239 = .ok (.putfield 99, 3) := by decide +kernel
theorem dX6_init_242 : decode mX6_init.2.1 242 = .ok (.aload_n 0, 1) := by decide +kernel
theorem dX6_init_243 : decode mX6_init.2.1 243 = .ok (.sipush 864, 3) := by decide +kernel
theorem dX6_init_246 : decode mX6_init.2.1 246 = .ok (.newarray .int, 2) := by decide +kernel
theorem dX6_init_248 : decode mX6_init.2.1 248 = .ok (.putfield 102, 3) := by decide +kernel
theorem dX6_init_251 : decode mX6_init.2.1 251 = .ok (.aload_n 0, 1) := by decide +kernel
theorem dX6_init_252 : decode mX6_init.2.1 252 = .ok (.bipush 6, 2) := by decide +kernel
theorem dX6_init_254 : decode mX6_init.2.1 254 = .ok (.newarray .int, 2) := by decide +kernel
theorem dX6_init_256 : decode mX6_init.2.1 256 = .ok (.putfield 105, 3) := by decide +kernel
theorem dX6_init_259 : decode mX6_init.2.1 259 = .ok (.aload_n 0, 1) := by decide +kernel
theorem dX6_init_260 : decode mX6_init.2.1 260 = .ok (.sipush 864, 3) := by decide +kernel
theorem dX6_init_263 : decode mX6_init.2.1 263 = .ok (.newarray .int, 2) := by decide +kernel
theorem dX6_init_265 : decode mX6_init.2.1 265 = .ok (.putfield 108, 3) := by decide +kernel
theorem dX6_init_268 : decode mX6_init.2.1 268 = .ok (.aload_n 0, 1) := by decide +kernel
theorem dX6_init_269 : decode mX6_init.2.1 269 = .ok (.bipush 6, 2) := by decide +kernel
theorem dX6_init_271 : decode mX6_init.2.1 271 = .ok (.newarray .int, 2) := by decide +kernel
theorem dX6_init_273 : decode mX6_init.2.1 273 = .ok (.putfield 111, 3) := by decide +kernel
theorem dX6_init_276 : decode mX6_init.2.1 276 = .ok (.aload_n 0, 1) := by decide +kernel
theorem dX6_init_277 : decode mX6_init.2.1 277 = .ok (.bipush 30, 2) := by decide +kernel
theorem dX6_init_279 : decode mX6_init.2.1 279 = .ok (.newarray .int, 2) := by decide +kernel
theorem dX6_init_281 : decode mX6_init.2.1 281 = .ok (.putfield 114, 3) := by decide +kernel
theorem dX6_init_284 : decode mX6_init.2.1 284 = .ok (.aload_n 0, 1) := by decide +kernel
theorem dX6_init_285 : decode mX6_init.2.1 285 = .ok (.bipush 30, 2) := by decide +kernel
theorem dX6_init_287 : decode mX6_init.2.1 287 = .ok (.newarray .int, 2) := by decide +kernel
theorem dX6_init_289 : decode mX6_init.2.1 289 = .ok (.putfield 117, 3) := by decide +kernel
theorem dX6_init_292 : decode mX6_init.2.1 292 = .ok (.aload_n 0, 1) := by decide +kernel
theorem dX6_init_293 : decode mX6_init.2.1 293 = .ok (.bipush 30, 2) := by decide +kernel
theorem dX6_init_295 : decode mX6_init.2.1 295 = .ok (.newarray .int, 2) := by decide +kernel
theorem dX6_init_297 : decode mX6_init.2.1 297 = .ok (.putfield 120, 3) := by decide +kernel
theorem dX6_init_300 : decode mX6_init.2.1 300 = .ok (.aload_n 0, 1) := by decide +kernel
theorem dX6_init_301 : decode mX6_init.2.1 301 = .ok (.bipush 30, 2) := by decide +kernel
theorem dX6_init_303 : decode mX6_init.2.1 303 = .ok (.newarray .int, 2) := by decide +kernel
theorem dX6_init_305 : decode mX6_init.2.1 305 = .ok (.putfield 123, 3) := by decide +kernel
theorem dX6_init_308 : decode mX6_init.2.1 308 = .ok (.aload_n 0, 1) := by decide +kernel
theorem dX6_init_309 : decode mX6_init.2.1 309 = .ok (.getfield 71, 3) := by decide +kernel
theorem dX6_init_312 : decode mX6_init.2.1 312 = .ok (.iconst 0, 1) := by decide +kernel
theorem dX6_init_313 : decode mX6_init.2.1 313 = .ok (.iconst 3, 1) := by decide +kernel
theorem dX6_init_314 : decode mX6_init.2.1 314 = .ok (.iastore, 1) := by decide +kernel
theorem dX6_init_315 : decode mX6_init.2.1 315 = .ok (.iconst 1, 1) := by decide +kernel
theorem dX6_init_316 : decode mX6_init.2.1 316 = .ok (.istore_n 1, 1) := by decide +kernel
theorem dX6_init_317 : decode mX6_init.2.1 317 = .ok (.iload_n 1, 1) := by decide +kernel
theorem dX6_init_318 : decode mX6_init.2.1 318 = .ok (.bipush 27, 2) := by decide +kernel
theorem dX6_init_320 : decode mX6_init.2.1 320 = .ok (.if_icmp .ge 16, 3) := by decide +kernel
theorem dX6_init_323 : decode mX6_init.2.1 323 = .ok (.aload_n 0, 1) := by decide +kernel
theorem dX6_init_324 : decode mX6_init.2.1 324 = .ok (.getfield 71, 3) := by decide +kernel
theorem dX6_init_327 : decode mX6_init.2.1 327 = .ok (.iload_n 1, 1) := by decide +kernel
theorem dX6_init_328 : decode mX6_init.2.1 328 = .ok (.iconst 5, 1) := by decide +kernel
theorem dX6_init_329 : decode mX6_init.2.1 329 = .ok (.iastore, 1) := by decide +kernel
theorem dX6_init_330 : decode mX6_init.2.1 330 = .ok (.iinc 1 1, 3) := by decide +kernel
theorem dX6_init_333 : decode mX6_init.2.1 333 = .ok (.goto (-16), 3) := by decide +kernel
theorem dX6_init_336 : decode mX6_init.2.1 336 = .ok (.return_, 1) := by decide +kernel
theorem dX6_in_0 : decode mX6_in.2.1 0 = .ok (.iload_n 0, 1) := by decide +kernel
theorem dX6_in_1 : decode mX6_in.2.1 1 = .ok (.iload_n 1, 1) := by decide +kernel
theorem dX6_in_2 : decode mX6_in.2.1 2 = .ok (.if_icmp .lt 12, 3) := by decide +kernel
theorem dX6_in_5 : decode mX6_in.2.1 5 = .ok (.iload_n 0, 1) := by decide +kernel
theorem dX6_in_6 : decode mX6_in.2.1 6 = .ok (.iload_n 2, 1) := by decide +kernel
theorem dX6_in_7 : decode mX6_in.2.1 7 = .ok (.if_icmp .gt 7, 3) := by decide +kernel
theorem dX6_in_10 : decode mX6_in.2.1 10 = .ok (.iconst 1, 1) := by decide +kernel
theorem dX6_in_11 : decode mX6_in.2.1 11 = .ok (.goto 4, 3) := by decide +kernel
theorem dX6_in_14 : decode mX6_in.2.1 14 = .ok (.iconst 0, 1) := by decide +kernel
theorem dX6_in_15 : decode mX6_in.2.1 15 = .ok (.ireturn, 1) := by decide +kernel
theorem dX6_isBook_0 : decode mX6_isBook.2.1 0 = .ok (.iload_n 1, 1) := by decide +kernel
theorem dX6_isBook_1 : decode mX6_isBook.2.1 1 = .ok (.iconst 0, 1) := by decide +kernel
theorem dX6_isBook_2 : decode mX6_isBook.2.1 2 = .ok (.aload_n 0, 1) := by decide +kernel
theorem dX6_isBook_3 : decode mX6_isBook.2.1 3 = .ok (.getfield 126, 3) := by decide +kernel
theorem dX6_isBook_6 : decode mX6_isBook.2.1 6 = .ok (.iconst 1, 1) := by decide +kernel
theorem dX6_isBook_7 : decode mX6_isBook.2.1 7 = .ok (.isub, 1) := by decide +kernel
theorem dX6_isBook_8 : decode mX6_isBook.2.1 8 = .ok (.invokestatic 129, 3) := by decide +kernel
theorem dX6_isBook_11 : decode mX6_isBook.2.1 11 = .ok (.ireturn, 1) := by decide +kernel
theorem dX6_isBench_0 : decode mX6_isBench.2.1 0 = .ok (.iload_n 0, 1) := by decide +kernel
theorem dX6_isBench_1 : decode mX6_isBench.2.1 1 = .ok (.iconst 0, 1) := by decide +kernel
theorem dX6_isBench_2 : decode mX6_isBench.2.1 2 = .ok (.iconst 4, 1) := by decide +kernel
theorem dX6_isBench_3 : decode mX6_isBench.2.1 3 = .ok (.invokestatic 129, 3) := by decide +kernel
theorem dX6_isBench_6 : decode mX6_isBench.2.1 6 = .ok (.ireturn, 1) := by decide +kernel
theorem dX6_isGathering_0 : decode mX6_isGathering.2.1 0 = .ok (.aload_n 0, 1) := by decide +kernel
theorem dX6_isGathering_1 : decode mX6_isGathering.2.1 1 = .ok (.iload_n 1, 1) := by decide +kernel
theorem dX6_isGathering_2 : decode mX6_isGathering.2.1 2 = .ok (.invokevirtual 133, 3) := by decide +kernel
theorem dX6_isGathering_5 : decode mX6_isGathering.2.1 5 = .ok (.ifCond .eq 23, 3) := by decide +kernel
theorem dX6_isGathering_8 : decode mX6_isGathering.2.1 8 = .ok (.iload_n 2, 1) := by decide +kernel
theorem dX6_isGathering_9 : decode mX6_isGathering.2.1 9 = .ok (.iconst 0, 1) := by decide +kernel
theorem dX6_isGathering_10 : decode mX6_isGathering.2.1 10 = .ok (.aload_n 0, 1) := by decide +kernel
theorem dX6_isGathering_11 : decode mX6_isGathering.2.1 11 = .ok (.getfield 13, 3) := by decide +kernel
theorem dX6_isGathering_14 : decode mX6_isGathering.2.1 14 = .ok (.iload_n 1, 1) := by decide +kernel
theorem dX6_isGathering_15 : decode mX6_isGathering.2.1 15 = .ok (.iaload, 1) := by decide +kernel
theorem dX6_isGathering_16 : decode mX6_isGathering.2.1 16 = .ok (.iconst 1, 1) := by decide +kernel
theorem dX6_isGathering_17 : decode mX6_isGathering.2.1 17 = .ok (.isub, 1) := by decide +kernel
theorem dX6_isGathering_18 : decode mX6_isGathering.2.1 18 = .ok (.invokestatic 129, 3) := by decide +kernel
theorem dX6_isGathering_21 : decode mX6_isGathering.2.1 21 = .ok (.ifCond .eq 7, 3) := by decide +kernel
theorem dX6_isGathering_24 : decode mX6_isGathering.2.1 24 = .ok (.iconst 1, 1) := by decide +kernel
theorem dX6_isGathering_25 : decode mX6_isGathering.2.1 25 = .ok (.goto 4, 3) := by decide +kernel
theorem dX6_isGathering_28 : decode mX6_isGathering.2.1 28 = .ok (.iconst 0, 1) := by decide +kernel
theorem dX6_isGathering_29 : decode mX6_isGathering.2.1 29 = .ok (.ireturn, 1) := by decide +kernel
theorem dX6_many_0 : decode mX6_many.2.1 0 = .ok (.iconst 0, 1) := by decide +kernel
theorem dX6_many_1 : decode mX6_many.2.1 1 = .ok (.istore_n 1, 1) := by decide +kernel
theorem dX6_many_2 : decode mX6_many.2.1 2 = .ok (.iconst 0, 1) := by decide +kernel
theorem dX6_many_3 : decode mX6_many.2.1 3 = .ok (.istore_n 2, 1) := by decide +kernel
theorem dX6_many_4 : decode mX6_many.2.1 4 = .ok (.iload_n 2, 1) := by decide +kernel
theorem dX6_many_5 : decode mX6_many.2.1 5 = .ok (.bipush 16, 2) := by decide +kernel
theorem dX6_many_7 : decode mX6_many.2.1 7 = .ok (.if_icmp .ge 17, 3) := by decide +kernel
theorem dX6_many_10 : decode mX6_many.2.1 10 = .ok (.iload_n 1, 1) := by decide +kernel
theorem dX6_many_11 : decode mX6_many.2.1 11 = .ok (.iload_n 0, 1) := by decide +kernel
theorem dX6_many_12 : decode mX6_many.2.1 12 = .ok (.iload_n 2, 1) := by decide +kernel
theorem dX6_many_13 : decode mX6_many.2.1 13 = .ok (.ishr, 1) := by decide +kernel
theorem dX6_many_14 : decode mX6_many.2.1 14 = .ok (.iconst 1, 1) := by decide +kernel
theorem dX6_many_15 : decode mX6_many.2.1 15 = .ok (.iand, 1) := by decide +kernel
theorem dX6_many_16 : decode mX6_many.2.1 16 = .ok (.iadd, 1) := by decide +kernel
theorem dX6_many_17 : decode mX6_many.2.1 17 = .ok (.istore_n 1, 1) := by decide +kernel
theorem dX6_many_18 : decode mX6_many.2.1 18 = .ok (.iinc 2 1, 3) := by decide +kernel
theorem dX6_many_21 : decode mX6_many.2.1 21 = .ok (.goto (-17), 3) := by decide +kernel
theorem dX6_many_24 : decode mX6_many.2.1 24 = .ok (.iload_n 1, 1) := by decide +kernel
theorem dX6_many_25 : decode mX6_many.2.1 25 = .ok (.ireturn, 1) := by decide +kernel
theorem dX6_book_0 : decode mX6_book.2.1 0 = .ok (.aload_n 0, 1) := by decide +kernel
theorem dX6_book_1 : decode mX6_book.2.1 1 = .ok (.getfield 126, 3) := by decide +kernel
theorem dX6_book_4 : decode mX6_book.2.1 4 = .ok (.bipush 10, 2) := by decide +kernel
theorem dX6_book_6 : decode mX6_book.2.1 6 = .ok (.if_icmp .ne 6, 3) := by decide +kernel
theorem dX6_book_9 : decode mX6_book.2.1 9 = .ok (.bipush (-6), 2) := by decide +kernel
theorem dX6_book_11 : decode mX6_book.2.1 11 = .ok (.ireturn, 1) := by decide +kernel
theorem dX6_book_12 : decode mX6_book.2.1 12 = .ok (.iconst 0, 1) := by decide +kernel
theorem dX6_book_13 : decode mX6_book.2.1 13 = .ok (.istore_n 1, 1) := by decide +kernel
theorem dX6_book_14 : decode mX6_book.2.1 14 = .ok (.iload_n 1, 1) := by decide +kernel
theorem dX6_book_15 : decode mX6_book.2.1 15 = .ok (.iconst 5, 1) := by decide +kernel
theorem dX6_book_16 : decode mX6_book.2.1 16 = .ok (.if_icmp .ge 23, 3) := by decide +kernel
theorem dX6_book_19 : decode mX6_book.2.1 19 = .ok (.aload_n 0, 1) := by decide +kernel
theorem dX6_book_20 : decode mX6_book.2.1 20 = .ok (.getfield 32, 3) := by decide +kernel
theorem dX6_book_23 : decode mX6_book.2.1 23 = .ok (.iconst 5, 1) := by decide +kernel
theorem dX6_book_24 : decode mX6_book.2.1 24 = .ok (.aload_n 0, 1) := by decide +kernel
theorem dX6_book_25 : decode mX6_book.2.1 25 = .ok (.getfield 126, 3) := by decide +kernel
theorem dX6_book_28 : decode mX6_book.2.1 28 = .ok (.imul, 1) := by decide +kernel
theorem dX6_book_29 : decode mX6_book.2.1 29 = .ok (.iload_n 1, 1) := by decide +kernel
theorem dX6_book_30 : decode mX6_book.2.1 30 = .ok (.iadd, 1) := by decide +kernel
theorem dX6_book_31 : decode mX6_book.2.1 31 = .ok (.iconst 1, 1) := by decide +kernel
theorem dX6_book_32 : decode mX6_book.2.1 32 = .ok (.iastore, 1) := by decide +kernel
theorem dX6_book_33 : decode mX6_book.2.1 33 = .ok (.iinc 1 1, 3) := by decide +kernel
theorem dX6_book_36 : decode mX6_book.2.1 36 = .ok (.goto (-22), 3) := by decide +kernel
theorem dX6_book_39 : decode mX6_book.2.1 39 = .ok (.aload_n 0, 1) := by decide +kernel
theorem dX6_book_40 : decode mX6_book.2.1 40 = .ok (.getfield 38, 3) := by decide +kernel
theorem dX6_book_43 : decode mX6_book.2.1 43 = .ok (.aload_n 0, 1) := by decide +kernel
theorem dX6_book_44 : decode mX6_book.2.1 44 = .ok (.getfield 126, 3) := by decide +kernel
theorem dX6_book_47 : decode mX6_book.2.1 47 = .ok (.sipush 2000, 3) := by decide +kernel
theorem dX6_book_50 : decode mX6_book.2.1 50 = .ok (.iastore, 1) := by decide +kernel
theorem dX6_book_51 : decode mX6_book.2.1 51 = .ok (.aload_n 0, 1) := by decide +kernel
theorem dX6_book_52 : decode mX6_book.2.1 52 = .ok (.dup, 1) := by decide +kernel
theorem dX6_book_53 : decode mX6_book.2.1 53 = .ok (.getfield 126, 3) := by decide +kernel
theorem dX6_book_56 : decode mX6_book.2.1 56 = .ok (.iconst 1, 1) := by decide +kernel
theorem dX6_book_57 : decode mX6_book.2.1 57 = .ok (.iadd, 1) := by decide +kernel
theorem dX6_book_58 : decode mX6_book.2.1 58 = .ok (.putfield 126, 3) := by decide +kernel
theorem dX6_book_61 : decode mX6_book.2.1 61 = .ok (.aload_n 0, 1) := by decide +kernel
theorem dX6_book_62 : decode mX6_book.2.1 62 = .ok (.getfield 126, 3) := by decide +kernel
theorem dX6_book_65 : decode mX6_book.2.1 65 = .ok (.iconst 1, 1) := by decide +kernel
theorem dX6_book_66 : decode mX6_book.2.1 66 = .ok (.isub, 1) := by decide +kernel
theorem dX6_book_67 : decode mX6_book.2.1 67 = .ok (.ireturn, 1) := by decide +kernel
theorem dX6_gather_0 : decode mX6_gather.2.1 0 = .ok (.aload_n 0, 1) := by decide +kernel
theorem dX6_gather_1 : decode mX6_gather.2.1 1 = .ok (.iload_n 1, 1) := by decide +kernel
theorem dX6_gather_2 : decode mX6_gather.2.1 2 = .ok (.invokevirtual 133, 3) := by decide +kernel
theorem dX6_gather_5 : decode mX6_gather.2.1 5 = .ok (.ifCond .ne 6, 3) := by decide +kernel
theorem dX6_gather_8 : decode mX6_gather.2.1 8 = .ok (.bipush (-2), 2) := by decide +kernel
theorem dX6_gather_10 : decode mX6_gather.2.1 10 = .ok (.ireturn, 1) := by decide +kernel
theorem dX6_gather_11 : decode mX6_gather.2.1 11 = .ok (.iload_n 2, 1) := by decide +kernel
theorem dX6_gather_12 : decode mX6_gather.2.1 12 = .ok (.iconst 1, 1) := by decide +kernel
theorem dX6_gather_13 : decode mX6_gather.2.1 13 = .ok (.bipush 16, 2) := by decide +kernel
theorem dX6_gather_15 : decode mX6_gather.2.1 15 = .ok (.invokestatic 129, 3) := by decide +kernel
theorem dX6_gather_18 : decode mX6_gather.2.1 18 = .ok (.ifCond .ne 6, 3) := by decide +kernel
theorem dX6_gather_21 : decode mX6_gather.2.1 21 = .ok (.bipush (-3), 2) := by decide +kernel
theorem dX6_gather_23 : decode mX6_gather.2.1 23 = .ok (.ireturn, 1) := by decide +kernel
theorem dX6_gather_24 : decode mX6_gather.2.1 24 = .ok (.aload_n 0, 1) := by decide +kernel
theorem dX6_gather_25 : decode mX6_gather.2.1 25 = .ok (.getfield 7, 3) := by decide +kernel
theorem dX6_gather_28 : decode mX6_gather.2.1 28 = .ok (.iload_n 1, 1) := by decide +kernel
theorem dX6_gather_29 : decode mX6_gather.2.1 29 = .ok (.iaload, 1) := by decide +kernel
theorem dX6_gather_30 : decode mX6_gather.2.1 30 = .ok (.ifCond .eq 6, 3) := by decide +kernel
theorem dX6_gather_33 : decode mX6_gather.2.1 33 = .ok (.bipush (-4), 2) := by decide +kernel
theorem dX6_gather_35 : decode mX6_gather.2.1 35 = .ok (.ireturn, 1) := by decide +kernel
theorem dX6_gather_36 : decode mX6_gather.2.1 36 = .ok (.aload_n 0, 1) := by decide +kernel
theorem dX6_gather_37 : decode mX6_gather.2.1 37 = .ok (.getfield 13, 3) := by decide +kernel
theorem dX6_gather_40 : decode mX6_gather.2.1 40 = .ok (.iload_n 1, 1) := by decide +kernel
theorem dX6_gather_41 : decode mX6_gather.2.1 41 = .ok (.iaload, 1) := by decide +kernel
theorem dX6_gather_42 : decode mX6_gather.2.1 42 = .ok (.bipush 6, 2) := by decide +kernel
theorem dX6_gather_44 : decode mX6_gather.2.1 44 = .ok (.if_icmp .ne 6, 3) := by decide +kernel
theorem dX6_gather_47 : decode mX6_gather.2.1 47 = .ok (.bipush (-6), 2) := by decide +kernel
theorem dX6_gather_49 : decode mX6_gather.2.1 49 = .ok (.ireturn, 1) := by decide +kernel
theorem dX6_gather_50 : decode mX6_gather.2.1 50 = .ok (.bipush 6, 2) := by decide +kernel
theorem dX6_gather_52 : decode mX6_gather.2.1 52 = .ok (.iload_n 1, 1) := by decide +kernel
theorem dX6_gather_53 : decode mX6_gather.2.1 53 = .ok (.imul, 1) := by decide +kernel
theorem dX6_gather_54 : decode mX6_gather.2.1 54 = .ok (.aload_n 0, 1) := by decide +kernel
theorem dX6_gather_55 : decode mX6_gather.2.1 55 = .ok (.getfield 13, 3) := by decide +kernel
theorem dX6_gather_58 : decode mX6_gather.2.1 58 = .ok (.iload_n 1, 1) := by decide +kernel
theorem dX6_gather_59 : decode mX6_gather.2.1 59 = .ok (.iaload, 1) := by decide +kernel
theorem dX6_gather_60 : decode mX6_gather.2.1 60 = .ok (.iadd, 1) := by decide +kernel
theorem dX6_gather_61 : decode mX6_gather.2.1 61 = .ok (.istore_n 3, 1) := by decide +kernel
theorem dX6_gather_62 : decode mX6_gather.2.1 62 = .ok (.aload_n 0, 1) := by decide +kernel
theorem dX6_gather_63 : decode mX6_gather.2.1 63 = .ok (.getfield 16, 3) := by decide +kernel
theorem dX6_gather_66 : decode mX6_gather.2.1 66 = .ok (.iload_n 3, 1) := by decide +kernel
theorem dX6_gather_67 : decode mX6_gather.2.1 67 = .ok (.iload_n 2, 1) := by decide +kernel
theorem dX6_gather_68 : decode mX6_gather.2.1 68 = .ok (.iastore, 1) := by decide +kernel
theorem dX6_gather_69 : decode mX6_gather.2.1 69 = .ok (.aload_n 0, 1) := by decide +kernel
theorem dX6_gather_70 : decode mX6_gather.2.1 70 = .ok (.getfield 19, 3) := by decide +kernel
theorem dX6_gather_73 : decode mX6_gather.2.1 73 = .ok (.iload_n 3, 1) := by decide +kernel
theorem dX6_gather_74 : decode mX6_gather.2.1 74 = .ok (.iconst 1, 1) := by decide +kernel
theorem dX6_gather_75 : decode mX6_gather.2.1 75 = .ok (.iload_n 2, 1) := by decide +kernel
theorem dX6_gather_76 : decode mX6_gather.2.1 76 = .ok (.ishl, 1) := by decide +kernel
theorem dX6_gather_77 : decode mX6_gather.2.1 77 = .ok (.iconst 1, 1) := by decide +kernel
theorem dX6_gather_78 : decode mX6_gather.2.1 78 = .ok (.isub, 1) := by decide +kernel
theorem dX6_gather_79 : decode mX6_gather.2.1 79 = .ok (.iastore, 1) := by decide +kernel
theorem dX6_gather_80 : decode mX6_gather.2.1 80 = .ok (.aload_n 0, 1) := by decide +kernel
theorem dX6_gather_81 : decode mX6_gather.2.1 81 = .ok (.getfield 13, 3) := by decide +kernel
theorem dX6_gather_84 : decode mX6_gather.2.1 84 = .ok (.iload_n 1, 1) := by decide +kernel
theorem dX6_gather_85 : decode mX6_gather.2.1 85 = .ok (.dup2, 1) := by decide +kernel
theorem dX6_gather_86 : decode mX6_gather.2.1 86 = .ok (.iaload, 1) := by decide +kernel
theorem dX6_gather_87 : decode mX6_gather.2.1 87 = .ok (.iconst 1, 1) := by decide +kernel
theorem dX6_gather_88 : decode mX6_gather.2.1 88 = .ok (.iadd, 1) := by decide +kernel
theorem dX6_gather_89 : decode mX6_gather.2.1 89 = .ok (.iastore, 1) := by decide +kernel
theorem dX6_gather_90 : decode mX6_gather.2.1 90 = .ok (.aload_n 0, 1) := by decide +kernel
theorem dX6_gather_91 : decode mX6_gather.2.1 91 = .ok (.getfield 13, 3) := by decide +kernel
theorem dX6_gather_94 : decode mX6_gather.2.1 94 = .ok (.iload_n 1, 1) := by decide +kernel
theorem dX6_gather_95 : decode mX6_gather.2.1 95 = .ok (.iaload, 1) := by decide +kernel
theorem dX6_gather_96 : decode mX6_gather.2.1 96 = .ok (.iconst 1, 1) := by decide +kernel
theorem dX6_gather_97 : decode mX6_gather.2.1 97 = .ok (.isub, 1) := by decide +kernel
theorem dX6_gather_98 : decode mX6_gather.2.1 98 = .ok (.ireturn, 1) := by decide +kernel
theorem dX6_look_0 : decode mX6_look.2.1 0 = .ok (.aload_n 0, 1) := by decide +kernel
theorem dX6_look_1 : decode mX6_look.2.1 1 = .ok (.iload_n 1, 1) := by decide +kernel
theorem dX6_look_2 : decode mX6_look.2.1 2 = .ok (.iload_n 2, 1) := by decide +kernel
theorem dX6_look_3 : decode mX6_look.2.1 3 = .ok (.invokevirtual 137, 3) := by decide +kernel
theorem dX6_look_6 : decode mX6_look.2.1 6 = .ok (.ifCond .ne 6, 3) := by decide +kernel
theorem dX6_look_9 : decode mX6_look.2.1 9 = .ok (.bipush (-2), 2) := by decide +kernel
theorem dX6_look_11 : decode mX6_look.2.1 11 = .ok (.ireturn, 1) := by decide +kernel
theorem dX6_look_12 : decode mX6_look.2.1 12 = .ok (.bipush 6, 2) := by decide +kernel
theorem dX6_look_14 : decode mX6_look.2.1 14 = .ok (.iload_n 1, 1) := by decide +kernel
theorem dX6_look_15 : decode mX6_look.2.1 15 = .ok (.imul, 1) := by decide +kernel
theorem dX6_look_16 : decode mX6_look.2.1 16 = .ok (.iload_n 2, 1) := by decide +kernel
theorem dX6_look_17 : decode mX6_look.2.1 17 = .ok (.iadd, 1) := by decide +kernel
theorem dX6_look_18 : decode mX6_look.2.1 18 = .ok (.istore 4, 2) := by decide +kernel
theorem dX6_look_20 : decode mX6_look.2.1 20 = .ok (.iload_n 3, 1) := by decide +kernel
theorem dX6_look_21 : decode mX6_look.2.1 21 = .ok (.iconst 0, 1) := by decide +kernel
theorem dX6_look_22 : decode mX6_look.2.1 22 = .ok (.iconst 1, 1) := by decide +kernel
theorem dX6_look_23 : decode mX6_look.2.1 23 = .ok (.aload_n 0, 1) := by decide +kernel
theorem dX6_look_24 : decode mX6_look.2.1 24 = .ok (.getfield 16, 3) := by decide +kernel
theorem dX6_look_27 : decode mX6_look.2.1 27 = .ok (.iload 4, 2) := by decide +kernel
theorem dX6_look_29 : decode mX6_look.2.1 29 = .ok (.iaload, 1) := by decide +kernel
theorem dX6_look_30 : decode mX6_look.2.1 30 = .ok (.ishl, 1) := by decide +kernel
theorem dX6_look_31 : decode mX6_look.2.1 31 = .ok (.iconst 1, 1) := by decide +kernel
theorem dX6_look_32 : decode mX6_look.2.1 32 = .ok (.isub, 1) := by decide +kernel
theorem dX6_look_33 : decode mX6_look.2.1 33 = .ok (.invokestatic 129, 3) := by decide +kernel
theorem dX6_look_36 : decode mX6_look.2.1 36 = .ok (.ifCond .ne 6, 3) := by decide +kernel
theorem dX6_look_39 : decode mX6_look.2.1 39 = .ok (.bipush (-3), 2) := by decide +kernel
theorem dX6_look_41 : decode mX6_look.2.1 41 = .ok (.ireturn, 1) := by decide +kernel
theorem dX6_look_42 : decode mX6_look.2.1 42 = .ok (.aload_n 0, 1) := by decide +kernel
theorem dX6_look_43 : decode mX6_look.2.1 43 = .ok (.getfield 7, 3) := by decide +kernel
theorem dX6_look_46 : decode mX6_look.2.1 46 = .ok (.iload_n 1, 1) := by decide +kernel
theorem dX6_look_47 : decode mX6_look.2.1 47 = .ok (.iaload, 1) := by decide +kernel
theorem dX6_look_48 : decode mX6_look.2.1 48 = .ok (.iconst 5, 1) := by decide +kernel
theorem dX6_look_49 : decode mX6_look.2.1 49 = .ok (.if_icmp .ne 6, 3) := by decide +kernel
theorem dX6_look_52 : decode mX6_look.2.1 52 = .ok (.bipush (-4), 2) := by decide +kernel
theorem dX6_look_54 : decode mX6_look.2.1 54 = .ok (.ireturn, 1) := by decide +kernel
theorem dX6_look_55 : decode mX6_look.2.1 55 = .ok (.aload_n 0, 1) := by decide +kernel
theorem dX6_look_56 : decode mX6_look.2.1 56 = .ok (.getfield 19, 3) := by decide +kernel
theorem dX6_look_59 : decode mX6_look.2.1 59 = .ok (.iload 4, 2) := by decide +kernel
theorem dX6_look_61 : decode mX6_look.2.1 61 = .ok (.iaload, 1) := by decide +kernel
theorem dX6_look_62 : decode mX6_look.2.1 62 = .ok (.iload_n 3, 1) := by decide +kernel
theorem dX6_look_63 : decode mX6_look.2.1 63 = .ok (.iconst (-1), 1) := by decide +kernel
theorem dX6_look_64 : decode mX6_look.2.1 64 = .ok (.ixor, 1) := by decide +kernel
theorem dX6_look_65 : decode mX6_look.2.1 65 = .ok (.iand, 1) := by decide +kernel
theorem dX6_look_66 : decode mX6_look.2.1 66 = .ok (.invokestatic 141, 3) := by decide +kernel
theorem dX6_look_69 : decode mX6_look.2.1 69 = .ok (.istore 5, 2) := by decide +kernel
theorem dX6_look_71 : decode mX6_look.2.1 71 = .ok (.iload_n 3, 1) := by decide +kernel
theorem dX6_look_72 : decode mX6_look.2.1 72 = .ok (.aload_n 0, 1) := by decide +kernel
theorem dX6_look_73 : decode mX6_look.2.1 73 = .ok (.getfield 19, 3) := by decide +kernel
theorem dX6_look_76 : decode mX6_look.2.1 76 = .ok (.iload 4, 2) := by decide +kernel
theorem dX6_look_78 : decode mX6_look.2.1 78 = .ok (.iaload, 1) := by decide +kernel
theorem dX6_look_79 : decode mX6_look.2.1 79 = .ok (.iconst (-1), 1) := by decide +kernel
theorem dX6_look_80 : decode mX6_look.2.1 80 = .ok (.ixor, 1) := by decide +kernel
theorem dX6_look_81 : decode mX6_look.2.1 81 = .ok (.iand, 1) := by decide +kernel
theorem dX6_look_82 : decode mX6_look.2.1 82 = .ok (.invokestatic 141, 3) := by decide +kernel
theorem dX6_look_85 : decode mX6_look.2.1 85 = .ok (.istore 6, 2) := by decide +kernel
theorem dX6_look_87 : decode mX6_look.2.1 87 = .ok (.aload_n 0, 1) := by decide +kernel
theorem dX6_look_88 : decode mX6_look.2.1 88 = .ok (.getfield 26, 3) := by decide +kernel
theorem dX6_look_91 : decode mX6_look.2.1 91 = .ok (.iconst 5, 1) := by decide +kernel
theorem dX6_look_92 : decode mX6_look.2.1 92 = .ok (.iload_n 1, 1) := by decide +kernel
theorem dX6_look_93 : decode mX6_look.2.1 93 = .ok (.imul, 1) := by decide +kernel
theorem dX6_look_94 : decode mX6_look.2.1 94 = .ok (.aload_n 0, 1) := by decide +kernel
theorem dX6_look_95 : decode mX6_look.2.1 95 = .ok (.getfield 7, 3) := by decide +kernel
theorem dX6_look_98 : decode mX6_look.2.1 98 = .ok (.iload_n 1, 1) := by decide +kernel
theorem dX6_look_99 : decode mX6_look.2.1 99 = .ok (.iaload, 1) := by decide +kernel
theorem dX6_look_100 : decode mX6_look.2.1 100 = .ok (.iadd, 1) := by decide +kernel
theorem dX6_look_101 : decode mX6_look.2.1 101 = .ok (.dup2, 1) := by decide +kernel
theorem dX6_look_102 : decode mX6_look.2.1 102 = .ok (.iaload, 1) := by decide +kernel
theorem dX6_look_103 : decode mX6_look.2.1 103 = .ok (.iload 5, 2) := by decide +kernel
theorem dX6_look_105 : decode mX6_look.2.1 105 = .ok (.iadd, 1) := by decide +kernel
theorem dX6_look_106 : decode mX6_look.2.1 106 = .ok (.iastore, 1) := by decide +kernel
theorem dX6_look_107 : decode mX6_look.2.1 107 = .ok (.aload_n 0, 1) := by decide +kernel
theorem dX6_look_108 : decode mX6_look.2.1 108 = .ok (.getfield 29, 3) := by decide +kernel
theorem dX6_look_111 : decode mX6_look.2.1 111 = .ok (.iconst 5, 1) := by decide +kernel
theorem dX6_look_112 : decode mX6_look.2.1 112 = .ok (.iload_n 1, 1) := by decide +kernel
theorem dX6_look_113 : decode mX6_look.2.1 113 = .ok (.imul, 1) := by decide +kernel
theorem dX6_look_114 : decode mX6_look.2.1 114 = .ok (.aload_n 0, 1) := by decide +kernel
theorem dX6_look_115 : decode mX6_look.2.1 115 = .ok (.getfield 7, 3) := by decide +kernel
theorem dX6_look_118 : decode mX6_look.2.1 118 = .ok (.iload_n 1, 1) := by decide +kernel
theorem dX6_look_119 : decode mX6_look.2.1 119 = .ok (.iaload, 1) := by decide +kernel
theorem dX6_look_120 : decode mX6_look.2.1 120 = .ok (.iadd, 1) := by decide +kernel
theorem dX6_look_121 : decode mX6_look.2.1 121 = .ok (.dup2, 1) := by decide +kernel
theorem dX6_look_122 : decode mX6_look.2.1 122 = .ok (.iaload, 1) := by decide +kernel
theorem dX6_look_123 : decode mX6_look.2.1 123 = .ok (.iload 6, 2) := by decide +kernel
theorem dX6_look_125 : decode mX6_look.2.1 125 = .ok (.iadd, 1) := by decide +kernel
theorem dX6_look_126 : decode mX6_look.2.1 126 = .ok (.iastore, 1) := by decide +kernel
theorem dX6_look_127 : decode mX6_look.2.1 127 = .ok (.aload_n 0, 1) := by decide +kernel
theorem dX6_look_128 : decode mX6_look.2.1 128 = .ok (.getfield 19, 3) := by decide +kernel
theorem dX6_look_131 : decode mX6_look.2.1 131 = .ok (.iload 4, 2) := by decide +kernel
theorem dX6_look_133 : decode mX6_look.2.1 133 = .ok (.iload_n 3, 1) := by decide +kernel
theorem dX6_look_134 : decode mX6_look.2.1 134 = .ok (.iastore, 1) := by decide +kernel
theorem dX6_look_135 : decode mX6_look.2.1 135 = .ok (.aload_n 0, 1) := by decide +kernel
theorem dX6_look_136 : decode mX6_look.2.1 136 = .ok (.getfield 22, 3) := by decide +kernel
theorem dX6_look_139 : decode mX6_look.2.1 139 = .ok (.iload 4, 2) := by decide +kernel
theorem dX6_look_141 : decode mX6_look.2.1 141 = .ok (.iconst 1, 1) := by decide +kernel
theorem dX6_look_142 : decode mX6_look.2.1 142 = .ok (.bastore, 1) := by decide +kernel
theorem dX6_look_143 : decode mX6_look.2.1 143 = .ok (.iload 5, 2) := by decide +kernel
theorem dX6_look_145 : decode mX6_look.2.1 145 = .ok (.iload 6, 2) := by decide +kernel
theorem dX6_look_147 : decode mX6_look.2.1 147 = .ok (.iadd, 1) := by decide +kernel
theorem dX6_look_148 : decode mX6_look.2.1 148 = .ok (.ireturn, 1) := by decide +kernel
theorem dX6_pass_0 : decode mX6_pass.2.1 0 = .ok (.aload_n 0, 1) := by decide +kernel
theorem dX6_pass_1 : decode mX6_pass.2.1 1 = .ok (.iload_n 1, 1) := by decide +kernel
theorem dX6_pass_2 : decode mX6_pass.2.1 2 = .ok (.invokevirtual 133, 3) := by decide +kernel
theorem dX6_pass_5 : decode mX6_pass.2.1 5 = .ok (.ifCond .ne 6, 3) := by decide +kernel
theorem dX6_pass_8 : decode mX6_pass.2.1 8 = .ok (.bipush (-2), 2) := by decide +kernel
theorem dX6_pass_10 : decode mX6_pass.2.1 10 = .ok (.ireturn, 1) := by decide +kernel
theorem dX6_pass_11 : decode mX6_pass.2.1 11 = .ok (.aload_n 0, 1) := by decide +kernel
theorem dX6_pass_12 : decode mX6_pass.2.1 12 = .ok (.getfield 7, 3) := by decide +kernel
theorem dX6_pass_15 : decode mX6_pass.2.1 15 = .ok (.iload_n 1, 1) := by decide +kernel
theorem dX6_pass_16 : decode mX6_pass.2.1 16 = .ok (.iaload, 1) := by decide +kernel
theorem dX6_pass_17 : decode mX6_pass.2.1 17 = .ok (.iconst 5, 1) := by decide +kernel
theorem dX6_pass_18 : decode mX6_pass.2.1 18 = .ok (.if_icmp .ge 16, 3) := by decide +kernel
theorem dX6_pass_21 : decode mX6_pass.2.1 21 = .ok (.aload_n 0, 1) := by decide +kernel
theorem dX6_pass_22 : decode mX6_pass.2.1 22 = .ok (.getfield 13, 3) := by decide +kernel
theorem dX6_pass_25 : decode mX6_pass.2.1 25 = .ok (.iload_n 1, 1) := by decide +kernel
theorem dX6_pass_26 : decode mX6_pass.2.1 26 = .ok (.iaload, 1) := by decide +kernel
theorem dX6_pass_27 : decode mX6_pass.2.1 27 = .ok (.ifCond .le 7, 3) := by decide +kernel
theorem dX6_pass_30 : decode mX6_pass.2.1 30 = .ok (.iconst 1, 1) := by decide +kernel
theorem dX6_pass_31 : decode mX6_pass.2.1 31 = .ok (.goto 4, 3) := by decide +kernel
theorem dX6_pass_34 : decode mX6_pass.2.1 34 = .ok (.iconst 0, 1) := by decide +kernel
theorem dX6_pass_35 : decode mX6_pass.2.1 35 = .ok (.istore_n 2, 1) := by decide +kernel
theorem dX6_pass_36 : decode mX6_pass.2.1 36 = .ok (.iconst 0, 1) := by decide +kernel
theorem dX6_pass_37 : decode mX6_pass.2.1 37 = .ok (.istore_n 3, 1) := by decide +kernel
theorem dX6_pass_38 : decode mX6_pass.2.1 38 = .ok (.iload_n 3, 1) := by decide +kernel
theorem dX6_pass_39 : decode mX6_pass.2.1 39 = .ok (.aload_n 0, 1) := by decide +kernel
theorem dX6_pass_40 : decode mX6_pass.2.1 40 = .ok (.getfield 13, 3) := by decide +kernel
theorem dX6_pass_43 : decode mX6_pass.2.1 43 = .ok (.iload_n 1, 1) := by decide +kernel
theorem dX6_pass_44 : decode mX6_pass.2.1 44 = .ok (.iaload, 1) := by decide +kernel
theorem dX6_pass_45 : decode mX6_pass.2.1 45 = .ok (.if_icmp .ge 33, 3) := by decide +kernel
theorem dX6_pass_48 : decode mX6_pass.2.1 48 = .ok (.iload_n 2, 1) := by decide +kernel
theorem dX6_pass_49 : decode mX6_pass.2.1 49 = .ok (.ifCond .eq 21, 3) := by decide +kernel
theorem dX6_pass_52 : decode mX6_pass.2.1 52 = .ok (.aload_n 0, 1) := by decide +kernel
theorem dX6_pass_53 : decode mX6_pass.2.1 53 = .ok (.getfield 22, 3) := by decide +kernel
theorem dX6_pass_56 : decode mX6_pass.2.1 56 = .ok (.bipush 6, 2) := by decide +kernel
theorem dX6_pass_58 : decode mX6_pass.2.1 58 = .ok (.iload_n 1, 1) := by decide +kernel
theorem dX6_pass_59 : decode mX6_pass.2.1 59 = .ok (.imul, 1) := by decide +kernel
theorem dX6_pass_60 : decode mX6_pass.2.1 60 = .ok (.iload_n 3, 1) := by decide +kernel
theorem dX6_pass_61 : decode mX6_pass.2.1 61 = .ok (.iadd, 1) := by decide +kernel
theorem dX6_pass_62 : decode mX6_pass.2.1 62 = .ok (.baload, 1) := by decide +kernel
theorem dX6_pass_63 : decode mX6_pass.2.1 63 = .ok (.ifCond .eq 7, 3) := by decide +kernel
theorem dX6_pass_66 : decode mX6_pass.2.1 66 = .ok (.iconst 1, 1) := by decide +kernel
theorem dX6_pass_67 : decode mX6_pass.2.1 67 = .ok (.goto 4, 3) := by decide +kernel
theorem dX6_pass_70 : decode mX6_pass.2.1 70 = .ok (.iconst 0, 1) := by decide +kernel
theorem dX6_pass_71 : decode mX6_pass.2.1 71 = .ok (.istore_n 2, 1) := by decide +kernel
theorem dX6_pass_72 : decode mX6_pass.2.1 72 = .ok (.iinc 3 1, 3) := by decide +kernel
theorem dX6_pass_75 : decode mX6_pass.2.1 75 = .ok (.goto (-37), 3) := by decide +kernel
theorem dX6_pass_78 : decode mX6_pass.2.1 78 = .ok (.iload_n 2, 1) := by decide +kernel
theorem dX6_pass_79 : decode mX6_pass.2.1 79 = .ok (.ifCond .ne 6, 3) := by decide +kernel
theorem dX6_pass_82 : decode mX6_pass.2.1 82 = .ok (.bipush (-4), 2) := by decide +kernel
theorem dX6_pass_84 : decode mX6_pass.2.1 84 = .ok (.ireturn, 1) := by decide +kernel
theorem dX6_pass_85 : decode mX6_pass.2.1 85 = .ok (.aload_n 0, 1) := by decide +kernel
theorem dX6_pass_86 : decode mX6_pass.2.1 86 = .ok (.getfield 44, 3) := by decide +kernel
theorem dX6_pass_89 : decode mX6_pass.2.1 89 = .ok (.aload_n 0, 1) := by decide +kernel
theorem dX6_pass_90 : decode mX6_pass.2.1 90 = .ok (.getfield 145, 3) := by decide +kernel
theorem dX6_pass_93 : decode mX6_pass.2.1 93 = .ok (.aload_n 0, 1) := by decide +kernel
theorem dX6_pass_94 : decode mX6_pass.2.1 94 = .ok (.getfield 7, 3) := by decide +kernel
theorem dX6_pass_97 : decode mX6_pass.2.1 97 = .ok (.iload_n 1, 1) := by decide +kernel
theorem dX6_pass_98 : decode mX6_pass.2.1 98 = .ok (.iaload, 1) := by decide +kernel
theorem dX6_pass_99 : decode mX6_pass.2.1 99 = .ok (.iastore, 1) := by decide +kernel
theorem dX6_pass_100 : decode mX6_pass.2.1 100 = .ok (.aload_n 0, 1) := by decide +kernel
theorem dX6_pass_101 : decode mX6_pass.2.1 101 = .ok (.getfield 47, 3) := by decide +kernel
theorem dX6_pass_104 : decode mX6_pass.2.1 104 = .ok (.aload_n 0, 1) := by decide +kernel
theorem dX6_pass_105 : decode mX6_pass.2.1 105 = .ok (.getfield 145, 3) := by decide +kernel
theorem dX6_pass_108 : decode mX6_pass.2.1 108 = .ok (.aload_n 0, 1) := by decide +kernel
theorem dX6_pass_109 : decode mX6_pass.2.1 109 = .ok (.getfield 148, 3) := by decide +kernel
theorem dX6_pass_112 : decode mX6_pass.2.1 112 = .ok (.iastore, 1) := by decide +kernel
theorem dX6_pass_113 : decode mX6_pass.2.1 113 = .ok (.aload_n 0, 1) := by decide +kernel
theorem dX6_pass_114 : decode mX6_pass.2.1 114 = .ok (.dup, 1) := by decide +kernel
theorem dX6_pass_115 : decode mX6_pass.2.1 115 = .ok (.getfield 145, 3) := by decide +kernel
theorem dX6_pass_118 : decode mX6_pass.2.1 118 = .ok (.iconst 1, 1) := by decide +kernel
theorem dX6_pass_119 : decode mX6_pass.2.1 119 = .ok (.iadd, 1) := by decide +kernel
theorem dX6_pass_120 : decode mX6_pass.2.1 120 = .ok (.putfield 145, 3) := by decide +kernel
theorem dX6_pass_123 : decode mX6_pass.2.1 123 = .ok (.aload_n 0, 1) := by decide +kernel
theorem dX6_pass_124 : decode mX6_pass.2.1 124 = .ok (.getfield 7, 3) := by decide +kernel
theorem dX6_pass_127 : decode mX6_pass.2.1 127 = .ok (.iload_n 1, 1) := by decide +kernel
theorem dX6_pass_128 : decode mX6_pass.2.1 128 = .ok (.dup2, 1) := by decide +kernel
theorem dX6_pass_129 : decode mX6_pass.2.1 129 = .ok (.iaload, 1) := by decide +kernel
theorem dX6_pass_130 : decode mX6_pass.2.1 130 = .ok (.iconst 1, 1) := by decide +kernel
theorem dX6_pass_131 : decode mX6_pass.2.1 131 = .ok (.iadd, 1) := by decide +kernel
theorem dX6_pass_132 : decode mX6_pass.2.1 132 = .ok (.iastore, 1) := by decide +kernel
theorem dX6_pass_133 : decode mX6_pass.2.1 133 = .ok (.iconst 0, 1) := by decide +kernel
theorem dX6_pass_134 : decode mX6_pass.2.1 134 = .ok (.istore_n 3, 1) := by decide +kernel
theorem dX6_pass_135 : decode mX6_pass.2.1 135 = .ok (.iload_n 3, 1) := by decide +kernel
theorem dX6_pass_136 : decode mX6_pass.2.1 136 = .ok (.bipush 6, 2) := by decide +kernel
theorem dX6_pass_138 : decode mX6_pass.2.1 138 = .ok (.if_icmp .ge 21, 3) := by decide +kernel
theorem dX6_pass_141 : decode mX6_pass.2.1 141 = .ok (.aload_n 0, 1) := by decide +kernel
theorem dX6_pass_142 : decode mX6_pass.2.1 142 = .ok (.getfield 22, 3) := by decide +kernel
theorem dX6_pass_145 : decode mX6_pass.2.1 145 = .ok (.bipush 6, 2) := by decide +kernel
theorem dX6_pass_147 : decode mX6_pass.2.1 147 = .ok (.iload_n 1, 1) := by decide +kernel
theorem dX6_pass_148 : decode mX6_pass.2.1 148 = .ok (.imul, 1) := by decide +kernel
theorem dX6_pass_149 : decode mX6_pass.2.1 149 = .ok (.iload_n 3, 1) := by decide +kernel
theorem dX6_pass_150 : decode mX6_pass.2.1 150 = .ok (.iadd, 1) := by decide +kernel
theorem dX6_pass_151 : decode mX6_pass.2.1 151 = .ok (.iconst 0, 1) := by decide +kernel
theorem dX6_pass_152 : decode mX6_pass.2.1 152 = .ok (.bastore, 1) := by decide +kernel
theorem dX6_pass_153 : decode mX6_pass.2.1 153 = .ok (.iinc 3 1, 3) := by decide +kernel
theorem dX6_pass_156 : decode mX6_pass.2.1 156 = .ok (.goto (-21), 3) := by decide +kernel
theorem dX6_pass_159 : decode mX6_pass.2.1 159 = .ok (.aload_n 0, 1) := by decide +kernel
theorem dX6_pass_160 : decode mX6_pass.2.1 160 = .ok (.getfield 7, 3) := by decide +kernel
theorem dX6_pass_163 : decode mX6_pass.2.1 163 = .ok (.iload_n 1, 1) := by decide +kernel
theorem dX6_pass_164 : decode mX6_pass.2.1 164 = .ok (.iaload, 1) := by decide +kernel
theorem dX6_pass_165 : decode mX6_pass.2.1 165 = .ok (.ireturn, 1) := by decide +kernel
theorem dX6_told_0 : decode mX6_told.2.1 0 = .ok (.aload_n 0, 1) := by decide +kernel
theorem dX6_told_1 : decode mX6_told.2.1 1 = .ok (.iload_n 1, 1) := by decide +kernel
theorem dX6_told_2 : decode mX6_told.2.1 2 = .ok (.invokevirtual 133, 3) := by decide +kernel
theorem dX6_told_5 : decode mX6_told.2.1 5 = .ok (.ifCond .ne 6, 3) := by decide +kernel
theorem dX6_told_8 : decode mX6_told.2.1 8 = .ok (.bipush (-2), 2) := by decide +kernel
theorem dX6_told_10 : decode mX6_told.2.1 10 = .ok (.ireturn, 1) := by decide +kernel
theorem dX6_told_11 : decode mX6_told.2.1 11 = .ok (.iload_n 2, 1) := by decide +kernel
theorem dX6_told_12 : decode mX6_told.2.1 12 = .ok (.iconst 0, 1) := by decide +kernel
theorem dX6_told_13 : decode mX6_told.2.1 13 = .ok (.iconst 3, 1) := by decide +kernel
theorem dX6_told_14 : decode mX6_told.2.1 14 = .ok (.invokestatic 129, 3) := by decide +kernel
theorem dX6_told_17 : decode mX6_told.2.1 17 = .ok (.ifCond .ne 6, 3) := by decide +kernel
theorem dX6_told_20 : decode mX6_told.2.1 20 = .ok (.bipush (-3), 2) := by decide +kernel
theorem dX6_told_22 : decode mX6_told.2.1 22 = .ok (.ireturn, 1) := by decide +kernel
theorem dX6_told_23 : decode mX6_told.2.1 23 = .ok (.iconst 0, 1) := by decide +kernel
theorem dX6_told_24 : decode mX6_told.2.1 24 = .ok (.istore_n 3, 1) := by decide +kernel
theorem dX6_told_25 : decode mX6_told.2.1 25 = .ok (.iconst 0, 1) := by decide +kernel
theorem dX6_told_26 : decode mX6_told.2.1 26 = .ok (.istore 4, 2) := by decide +kernel
theorem dX6_told_28 : decode mX6_told.2.1 28 = .ok (.iload 4, 2) := by decide +kernel
theorem dX6_told_30 : decode mX6_told.2.1 30 = .ok (.aload_n 0, 1) := by decide +kernel
theorem dX6_told_31 : decode mX6_told.2.1 31 = .ok (.getfield 13, 3) := by decide +kernel
theorem dX6_told_34 : decode mX6_told.2.1 34 = .ok (.iload_n 1, 1) := by decide +kernel
theorem dX6_told_35 : decode mX6_told.2.1 35 = .ok (.iaload, 1) := by decide +kernel
theorem dX6_told_36 : decode mX6_told.2.1 36 = .ok (.if_icmp .ge 52, 3) := by decide +kernel
theorem dX6_told_39 : decode mX6_told.2.1 39 = .ok (.iload_n 2, 1) := by decide +kernel
theorem dX6_told_40 : decode mX6_told.2.1 40 = .ok (.iconst 1, 1) := by decide +kernel
theorem dX6_told_41 : decode mX6_told.2.1 41 = .ok (.if_icmp .le 47, 3) := by decide +kernel
theorem dX6_told_44 : decode mX6_told.2.1 44 = .ok (.iload_n 3, 1) := by decide +kernel
theorem dX6_told_45 : decode mX6_told.2.1 45 = .ok (.iload_n 2, 1) := by decide +kernel
theorem dX6_told_46 : decode mX6_told.2.1 46 = .ok (.iconst 2, 1) := by decide +kernel
theorem dX6_told_47 : decode mX6_told.2.1 47 = .ok (.if_icmp .ne 21, 3) := by decide +kernel
theorem dX6_told_50 : decode mX6_told.2.1 50 = .ok (.aload_n 0, 1) := by decide +kernel
theorem dX6_told_51 : decode mX6_told.2.1 51 = .ok (.getfield 19, 3) := by decide +kernel
theorem dX6_told_54 : decode mX6_told.2.1 54 = .ok (.bipush 6, 2) := by decide +kernel
theorem dX6_told_56 : decode mX6_told.2.1 56 = .ok (.iload_n 1, 1) := by decide +kernel
theorem dX6_told_57 : decode mX6_told.2.1 57 = .ok (.imul, 1) := by decide +kernel
theorem dX6_told_58 : decode mX6_told.2.1 58 = .ok (.iload 4, 2) := by decide +kernel
theorem dX6_told_60 : decode mX6_told.2.1 60 = .ok (.iadd, 1) := by decide +kernel
theorem dX6_told_61 : decode mX6_told.2.1 61 = .ok (.iaload, 1) := by decide +kernel
theorem dX6_told_62 : decode mX6_told.2.1 62 = .ok (.invokestatic 141, 3) := by decide +kernel
theorem dX6_told_65 : decode mX6_told.2.1 65 = .ok (.goto 15, 3) := by decide +kernel
theorem dX6_told_68 : decode mX6_told.2.1 68 = .ok (.aload_n 0, 1) := by decide +kernel
theorem dX6_told_69 : decode mX6_told.2.1 69 = .ok (.getfield 16, 3) := by decide +kernel
theorem dX6_told_72 : decode mX6_told.2.1 72 = .ok (.bipush 6, 2) := by decide +kernel
theorem dX6_told_74 : decode mX6_told.2.1 74 = .ok (.iload_n 1, 1) := by decide +kernel
theorem dX6_told_75 : decode mX6_told.2.1 75 = .ok (.imul, 1) := by decide +kernel
theorem dX6_told_76 : decode mX6_told.2.1 76 = .ok (.iload 4, 2) := by decide +kernel
theorem dX6_told_78 : decode mX6_told.2.1 78 = .ok (.iadd, 1) := by decide +kernel
theorem dX6_told_79 : decode mX6_told.2.1 79 = .ok (.iaload, 1) := by decide +kernel
theorem dX6_told_80 : decode mX6_told.2.1 80 = .ok (.iadd, 1) := by decide +kernel
theorem dX6_told_81 : decode mX6_told.2.1 81 = .ok (.istore_n 3, 1) := by decide +kernel
theorem dX6_told_82 : decode mX6_told.2.1 82 = .ok (.iinc 4 1, 3) := by decide +kernel
theorem dX6_told_85 : decode mX6_told.2.1 85 = .ok (.goto (-57), 3) := by decide +kernel
theorem dX6_told_88 : decode mX6_told.2.1 88 = .ok (.iload_n 2, 1) := by decide +kernel
theorem dX6_told_89 : decode mX6_told.2.1 89 = .ok (.ifCond .ne 12, 3) := by decide +kernel
theorem dX6_told_92 : decode mX6_told.2.1 92 = .ok (.aload_n 0, 1) := by decide +kernel
theorem dX6_told_93 : decode mX6_told.2.1 93 = .ok (.getfield 7, 3) := by decide +kernel
theorem dX6_told_96 : decode mX6_told.2.1 96 = .ok (.iload_n 1, 1) := by decide +kernel
theorem dX6_told_97 : decode mX6_told.2.1 97 = .ok (.iaload, 1) := by decide +kernel
theorem dX6_told_98 : decode mX6_told.2.1 98 = .ok (.goto 18, 3) := by decide +kernel
theorem dX6_told_101 : decode mX6_told.2.1 101 = .ok (.iload_n 2, 1) := by decide +kernel
theorem dX6_told_102 : decode mX6_told.2.1 102 = .ok (.iconst 1, 1) := by decide +kernel
theorem dX6_told_103 : decode mX6_told.2.1 103 = .ok (.if_icmp .ne 12, 3) := by decide +kernel
theorem dX6_told_106 : decode mX6_told.2.1 106 = .ok (.aload_n 0, 1) := by decide +kernel
theorem dX6_told_107 : decode mX6_told.2.1 107 = .ok (.getfield 13, 3) := by decide +kernel
theorem dX6_told_110 : decode mX6_told.2.1 110 = .ok (.iload_n 1, 1) := by decide +kernel
theorem dX6_told_111 : decode mX6_told.2.1 111 = .ok (.iaload, 1) := by decide +kernel
theorem dX6_told_112 : decode mX6_told.2.1 112 = .ok (.goto 4, 3) := by decide +kernel
theorem dX6_told_115 : decode mX6_told.2.1 115 = .ok (.iload_n 3, 1) := by decide +kernel
theorem dX6_told_116 : decode mX6_told.2.1 116 = .ok (.ireturn, 1) := by decide +kernel
theorem dX6_there_0 : decode mX6_there.2.1 0 = .ok (.aload_n 0, 1) := by decide +kernel
theorem dX6_there_1 : decode mX6_there.2.1 1 = .ok (.iload_n 1, 1) := by decide +kernel
theorem dX6_there_2 : decode mX6_there.2.1 2 = .ok (.iload_n 2, 1) := by decide +kernel
theorem dX6_there_3 : decode mX6_there.2.1 3 = .ok (.invokevirtual 137, 3) := by decide +kernel
theorem dX6_there_6 : decode mX6_there.2.1 6 = .ok (.ifCond .eq 17, 3) := by decide +kernel
theorem dX6_there_9 : decode mX6_there.2.1 9 = .ok (.aload_n 0, 1) := by decide +kernel
theorem dX6_there_10 : decode mX6_there.2.1 10 = .ok (.getfield 19, 3) := by decide +kernel
theorem dX6_there_13 : decode mX6_there.2.1 13 = .ok (.bipush 6, 2) := by decide +kernel
theorem dX6_there_15 : decode mX6_there.2.1 15 = .ok (.iload_n 1, 1) := by decide +kernel
theorem dX6_there_16 : decode mX6_there.2.1 16 = .ok (.imul, 1) := by decide +kernel
theorem dX6_there_17 : decode mX6_there.2.1 17 = .ok (.iload_n 2, 1) := by decide +kernel
theorem dX6_there_18 : decode mX6_there.2.1 18 = .ok (.iadd, 1) := by decide +kernel
theorem dX6_there_19 : decode mX6_there.2.1 19 = .ok (.iaload, 1) := by decide +kernel
theorem dX6_there_20 : decode mX6_there.2.1 20 = .ok (.goto 5, 3) := by decide +kernel
theorem dX6_there_23 : decode mX6_there.2.1 23 = .ok (.bipush (-2), 2) := by decide +kernel
theorem dX6_there_25 : decode mX6_there.2.1 25 = .ok (.ireturn, 1) := by decide +kernel
theorem dX6_gone_0 : decode mX6_gone.2.1 0 = .ok (.aload_n 0, 1) := by decide +kernel
theorem dX6_gone_1 : decode mX6_gone.2.1 1 = .ok (.iload_n 1, 1) := by decide +kernel
theorem dX6_gone_2 : decode mX6_gone.2.1 2 = .ok (.invokevirtual 133, 3) := by decide +kernel
theorem dX6_gone_5 : decode mX6_gone.2.1 5 = .ok (.ifCond .eq 10, 3) := by decide +kernel
theorem dX6_gone_8 : decode mX6_gone.2.1 8 = .ok (.iload_n 2, 1) := by decide +kernel
theorem dX6_gone_9 : decode mX6_gone.2.1 9 = .ok (.invokestatic 151, 3) := by decide +kernel
theorem dX6_gone_12 : decode mX6_gone.2.1 12 = .ok (.ifCond .ne 6, 3) := by decide +kernel
theorem dX6_gone_15 : decode mX6_gone.2.1 15 = .ok (.bipush (-2), 2) := by decide +kernel
theorem dX6_gone_17 : decode mX6_gone.2.1 17 = .ok (.ireturn, 1) := by decide +kernel
theorem dX6_gone_18 : decode mX6_gone.2.1 18 = .ok (.iload_n 3, 1) := by decide +kernel
theorem dX6_gone_19 : decode mX6_gone.2.1 19 = .ok (.ifCond .ne 16, 3) := by decide +kernel
theorem dX6_gone_22 : decode mX6_gone.2.1 22 = .ok (.aload_n 0, 1) := by decide +kernel
theorem dX6_gone_23 : decode mX6_gone.2.1 23 = .ok (.getfield 26, 3) := by decide +kernel
theorem dX6_gone_26 : decode mX6_gone.2.1 26 = .ok (.iconst 5, 1) := by decide +kernel
theorem dX6_gone_27 : decode mX6_gone.2.1 27 = .ok (.iload_n 1, 1) := by decide +kernel
theorem dX6_gone_28 : decode mX6_gone.2.1 28 = .ok (.imul, 1) := by decide +kernel
theorem dX6_gone_29 : decode mX6_gone.2.1 29 = .ok (.iload_n 2, 1) := by decide +kernel
theorem dX6_gone_30 : decode mX6_gone.2.1 30 = .ok (.iadd, 1) := by decide +kernel
theorem dX6_gone_31 : decode mX6_gone.2.1 31 = .ok (.iaload, 1) := by decide +kernel
theorem dX6_gone_32 : decode mX6_gone.2.1 32 = .ok (.goto 23, 3) := by decide +kernel
theorem dX6_gone_35 : decode mX6_gone.2.1 35 = .ok (.iload_n 3, 1) := by decide +kernel
theorem dX6_gone_36 : decode mX6_gone.2.1 36 = .ok (.iconst 1, 1) := by decide +kernel
theorem dX6_gone_37 : decode mX6_gone.2.1 37 = .ok (.if_icmp .ne 16, 3) := by decide +kernel
theorem dX6_gone_40 : decode mX6_gone.2.1 40 = .ok (.aload_n 0, 1) := by decide +kernel
theorem dX6_gone_41 : decode mX6_gone.2.1 41 = .ok (.getfield 29, 3) := by decide +kernel
theorem dX6_gone_44 : decode mX6_gone.2.1 44 = .ok (.iconst 5, 1) := by decide +kernel
theorem dX6_gone_45 : decode mX6_gone.2.1 45 = .ok (.iload_n 1, 1) := by decide +kernel
theorem dX6_gone_46 : decode mX6_gone.2.1 46 = .ok (.imul, 1) := by decide +kernel
theorem dX6_gone_47 : decode mX6_gone.2.1 47 = .ok (.iload_n 2, 1) := by decide +kernel
theorem dX6_gone_48 : decode mX6_gone.2.1 48 = .ok (.iadd, 1) := by decide +kernel
theorem dX6_gone_49 : decode mX6_gone.2.1 49 = .ok (.iaload, 1) := by decide +kernel
theorem dX6_gone_50 : decode mX6_gone.2.1 50 = .ok (.goto 5, 3) := by decide +kernel
theorem dX6_gone_53 : decode mX6_gone.2.1 53 = .ok (.bipush (-3), 2) := by decide +kernel
theorem dX6_gone_55 : decode mX6_gone.2.1 55 = .ok (.ireturn, 1) := by decide +kernel
theorem dX6_hours_0 : decode mX6_hours.2.1 0 = .ok (.aload_n 0, 1) := by decide +kernel
theorem dX6_hours_1 : decode mX6_hours.2.1 1 = .ok (.iload_n 1, 1) := by decide +kernel
theorem dX6_hours_2 : decode mX6_hours.2.1 2 = .ok (.invokevirtual 133, 3) := by decide +kernel
theorem dX6_hours_5 : decode mX6_hours.2.1 5 = .ok (.ifCond .eq 10, 3) := by decide +kernel
theorem dX6_hours_8 : decode mX6_hours.2.1 8 = .ok (.iload_n 2, 1) := by decide +kernel
theorem dX6_hours_9 : decode mX6_hours.2.1 9 = .ok (.invokestatic 151, 3) := by decide +kernel
theorem dX6_hours_12 : decode mX6_hours.2.1 12 = .ok (.ifCond .ne 6, 3) := by decide +kernel
theorem dX6_hours_15 : decode mX6_hours.2.1 15 = .ok (.bipush (-2), 2) := by decide +kernel
theorem dX6_hours_17 : decode mX6_hours.2.1 17 = .ok (.ireturn, 1) := by decide +kernel
theorem dX6_hours_18 : decode mX6_hours.2.1 18 = .ok (.iload_n 3, 1) := by decide +kernel
theorem dX6_hours_19 : decode mX6_hours.2.1 19 = .ok (.iconst 0, 1) := by decide +kernel
theorem dX6_hours_20 : decode mX6_hours.2.1 20 = .ok (.bipush 50, 2) := by decide +kernel
theorem dX6_hours_22 : decode mX6_hours.2.1 22 = .ok (.invokestatic 129, 3) := by decide +kernel
theorem dX6_hours_25 : decode mX6_hours.2.1 25 = .ok (.ifCond .ne 6, 3) := by decide +kernel
theorem dX6_hours_28 : decode mX6_hours.2.1 28 = .ok (.bipush (-3), 2) := by decide +kernel
theorem dX6_hours_30 : decode mX6_hours.2.1 30 = .ok (.ireturn, 1) := by decide +kernel
theorem dX6_hours_31 : decode mX6_hours.2.1 31 = .ok (.aload_n 0, 1) := by decide +kernel
theorem dX6_hours_32 : decode mX6_hours.2.1 32 = .ok (.getfield 32, 3) := by decide +kernel
theorem dX6_hours_35 : decode mX6_hours.2.1 35 = .ok (.iconst 5, 1) := by decide +kernel
theorem dX6_hours_36 : decode mX6_hours.2.1 36 = .ok (.iload_n 1, 1) := by decide +kernel
theorem dX6_hours_37 : decode mX6_hours.2.1 37 = .ok (.imul, 1) := by decide +kernel
theorem dX6_hours_38 : decode mX6_hours.2.1 38 = .ok (.iload_n 2, 1) := by decide +kernel
theorem dX6_hours_39 : decode mX6_hours.2.1 39 = .ok (.iadd, 1) := by decide +kernel
theorem dX6_hours_40 : decode mX6_hours.2.1 40 = .ok (.iload_n 3, 1) := by decide +kernel
theorem dX6_hours_41 : decode mX6_hours.2.1 41 = .ok (.iastore, 1) := by decide +kernel
theorem dX6_hours_42 : decode mX6_hours.2.1 42 = .ok (.iconst 1, 1) := by decide +kernel
theorem dX6_hours_43 : decode mX6_hours.2.1 43 = .ok (.ireturn, 1) := by decide +kernel
theorem dX6_promise_0 : decode mX6_promise.2.1 0 = .ok (.aload_n 0, 1) := by decide +kernel
theorem dX6_promise_1 : decode mX6_promise.2.1 1 = .ok (.iload_n 1, 1) := by decide +kernel
theorem dX6_promise_2 : decode mX6_promise.2.1 2 = .ok (.invokevirtual 133, 3) := by decide +kernel
theorem dX6_promise_5 : decode mX6_promise.2.1 5 = .ok (.ifCond .ne 6, 3) := by decide +kernel
theorem dX6_promise_8 : decode mX6_promise.2.1 8 = .ok (.bipush (-2), 2) := by decide +kernel
theorem dX6_promise_10 : decode mX6_promise.2.1 10 = .ok (.ireturn, 1) := by decide +kernel
theorem dX6_promise_11 : decode mX6_promise.2.1 11 = .ok (.iload_n 2, 1) := by decide +kernel
theorem dX6_promise_12 : decode mX6_promise.2.1 12 = .ok (.iconst 0, 1) := by decide +kernel
theorem dX6_promise_13 : decode mX6_promise.2.1 13 = .ok (.bipush 30, 2) := by decide +kernel
theorem dX6_promise_15 : decode mX6_promise.2.1 15 = .ok (.invokestatic 129, 3) := by decide +kernel
theorem dX6_promise_18 : decode mX6_promise.2.1 18 = .ok (.ifCond .eq 25, 3) := by decide +kernel
theorem dX6_promise_21 : decode mX6_promise.2.1 21 = .ok (.iload_n 3, 1) := by decide +kernel
theorem dX6_promise_22 : decode mX6_promise.2.1 22 = .ok (.iconst 0, 1) := by decide +kernel
theorem dX6_promise_23 : decode mX6_promise.2.1 23 = .ok (.sipush 2000, 3) := by decide +kernel
theorem dX6_promise_26 : decode mX6_promise.2.1 26 = .ok (.invokestatic 129, 3) := by decide +kernel
theorem dX6_promise_29 : decode mX6_promise.2.1 29 = .ok (.ifCond .eq 14, 3) := by decide +kernel
theorem dX6_promise_32 : decode mX6_promise.2.1 32 = .ok (.iload 4, 2) := by decide +kernel
theorem dX6_promise_34 : decode mX6_promise.2.1 34 = .ok (.iconst 0, 1) := by decide +kernel
theorem dX6_promise_35 : decode mX6_promise.2.1 35 = .ok (.bipush 100, 2) := by decide +kernel
theorem dX6_promise_37 : decode mX6_promise.2.1 37 = .ok (.invokestatic 129, 3) := by decide +kernel
theorem dX6_promise_40 : decode mX6_promise.2.1 40 = .ok (.ifCond .ne 6, 3) := by decide +kernel
theorem dX6_promise_43 : decode mX6_promise.2.1 43 = .ok (.bipush (-3), 2) := by decide +kernel
theorem dX6_promise_45 : decode mX6_promise.2.1 45 = .ok (.ireturn, 1) := by decide +kernel
theorem dX6_promise_46 : decode mX6_promise.2.1 46 = .ok (.aload_n 0, 1) := by decide +kernel
theorem dX6_promise_47 : decode mX6_promise.2.1 47 = .ok (.getfield 35, 3) := by decide +kernel
theorem dX6_promise_50 : decode mX6_promise.2.1 50 = .ok (.iload_n 1, 1) := by decide +kernel
theorem dX6_promise_51 : decode mX6_promise.2.1 51 = .ok (.iload_n 2, 1) := by decide +kernel
theorem dX6_promise_52 : decode mX6_promise.2.1 52 = .ok (.iastore, 1) := by decide +kernel
theorem dX6_promise_53 : decode mX6_promise.2.1 53 = .ok (.aload_n 0, 1) := by decide +kernel
theorem dX6_promise_54 : decode mX6_promise.2.1 54 = .ok (.getfield 38, 3) := by decide +kernel
theorem dX6_promise_57 : decode mX6_promise.2.1 57 = .ok (.iload_n 1, 1) := by decide +kernel
theorem dX6_promise_58 : decode mX6_promise.2.1 58 = .ok (.iload_n 3, 1) := by decide +kernel
theorem dX6_promise_59 : decode mX6_promise.2.1 59 = .ok (.iastore, 1) := by decide +kernel
theorem dX6_promise_60 : decode mX6_promise.2.1 60 = .ok (.aload_n 0, 1) := by decide +kernel
theorem dX6_promise_61 : decode mX6_promise.2.1 61 = .ok (.getfield 41, 3) := by decide +kernel
theorem dX6_promise_64 : decode mX6_promise.2.1 64 = .ok (.iload_n 1, 1) := by decide +kernel
theorem dX6_promise_65 : decode mX6_promise.2.1 65 = .ok (.iload 4, 2) := by decide +kernel
theorem dX6_promise_67 : decode mX6_promise.2.1 67 = .ok (.iastore, 1) := by decide +kernel
theorem dX6_promise_68 : decode mX6_promise.2.1 68 = .ok (.iconst 1, 1) := by decide +kernel
theorem dX6_promise_69 : decode mX6_promise.2.1 69 = .ok (.ireturn, 1) := by decide +kernel
theorem dX6_findEnds_0 : decode mX6_findEnds.2.1 0 = .ok (.iconst 0, 1) := by decide +kernel
theorem dX6_findEnds_1 : decode mX6_findEnds.2.1 1 = .ok (.istore_n 2, 1) := by decide +kernel
theorem dX6_findEnds_2 : decode mX6_findEnds.2.1 2 = .ok (.iload_n 2, 1) := by decide +kernel
theorem dX6_findEnds_3 : decode mX6_findEnds.2.1 3 = .ok (.iconst 5, 1) := by decide +kernel
theorem dX6_findEnds_4 : decode mX6_findEnds.2.1 4 = .ok (.if_icmp .ge 16, 3) := by decide +kernel
theorem dX6_findEnds_7 : decode mX6_findEnds.2.1 7 = .ok (.aload_n 0, 1) := by decide +kernel
theorem dX6_findEnds_8 : decode mX6_findEnds.2.1 8 = .ok (.getfield 68, 3) := by decide +kernel
theorem dX6_findEnds_11 : decode mX6_findEnds.2.1 11 = .ok (.iload_n 2, 1) := by decide +kernel
theorem dX6_findEnds_12 : decode mX6_findEnds.2.1 12 = .ok (.iconst 0, 1) := by decide +kernel
theorem dX6_findEnds_13 : decode mX6_findEnds.2.1 13 = .ok (.iastore, 1) := by decide +kernel
theorem dX6_findEnds_14 : decode mX6_findEnds.2.1 14 = .ok (.iinc 2 1, 3) := by decide +kernel
theorem dX6_findEnds_17 : decode mX6_findEnds.2.1 17 = .ok (.goto (-15), 3) := by decide +kernel
theorem dX6_findEnds_20 : decode mX6_findEnds.2.1 20 = .ok (.iconst 0, 1) := by decide +kernel
theorem dX6_findEnds_21 : decode mX6_findEnds.2.1 21 = .ok (.istore_n 2, 1) := by decide +kernel
theorem dX6_findEnds_22 : decode mX6_findEnds.2.1 22 = .ok (.iload_n 2, 1) := by decide +kernel
theorem dX6_findEnds_23 : decode mX6_findEnds.2.1 23 = .ok (.iload_n 1, 1) := by decide +kernel
theorem dX6_findEnds_24 : decode mX6_findEnds.2.1 24 = .ok (.if_icmp .ge 107, 3) := by decide +kernel
theorem dX6_findEnds_27 : decode mX6_findEnds.2.1 27 = .ok (.iconst 0, 1) := by decide +kernel
theorem dX6_findEnds_28 : decode mX6_findEnds.2.1 28 = .ok (.istore_n 3, 1) := by decide +kernel
theorem dX6_findEnds_29 : decode mX6_findEnds.2.1 29 = .ok (.iconst 0, 1) := by decide +kernel
theorem dX6_findEnds_30 : decode mX6_findEnds.2.1 30 = .ok (.istore 4, 2) := by decide +kernel
theorem dX6_findEnds_32 : decode mX6_findEnds.2.1 32 = .ok (.iload 4, 2) := by decide +kernel
theorem dX6_findEnds_34 : decode mX6_findEnds.2.1 34 = .ok (.iconst 5, 1) := by decide +kernel
theorem dX6_findEnds_35 : decode mX6_findEnds.2.1 35 = .ok (.if_icmp .ge 83, 3) := by decide +kernel
theorem dX6_findEnds_38 : decode mX6_findEnds.2.1 38 = .ok (.iload_n 3, 1) := by decide +kernel
theorem dX6_findEnds_39 : decode mX6_findEnds.2.1 39 = .ok (.iload 4, 2) := by decide +kernel
theorem dX6_findEnds_41 : decode mX6_findEnds.2.1 41 = .ok (.iconst 3, 1) := by decide +kernel
theorem dX6_findEnds_42 : decode mX6_findEnds.2.1 42 = .ok (.if_icmp .ne 17, 3) := by decide +kernel
theorem dX6_findEnds_45 : decode mX6_findEnds.2.1 45 = .ok (.aload_n 0, 1) := by decide +kernel
theorem dX6_findEnds_46 : decode mX6_findEnds.2.1 46 = .ok (.getfield 59, 3) := by decide +kernel
theorem dX6_findEnds_49 : decode mX6_findEnds.2.1 49 = .ok (.aload_n 0, 1) := by decide +kernel
theorem dX6_findEnds_50 : decode mX6_findEnds.2.1 50 = .ok (.getfield 62, 3) := by decide +kernel
theorem dX6_findEnds_53 : decode mX6_findEnds.2.1 53 = .ok (.iload_n 2, 1) := by decide +kernel
theorem dX6_findEnds_54 : decode mX6_findEnds.2.1 54 = .ok (.iaload, 1) := by decide +kernel
theorem dX6_findEnds_55 : decode mX6_findEnds.2.1 55 = .ok (.iaload, 1) := by decide +kernel
theorem dX6_findEnds_56 : decode mX6_findEnds.2.1 56 = .ok (.goto 4, 3) := by decide +kernel
theorem dX6_findEnds_59 : decode mX6_findEnds.2.1 59 = .ok (.iconst 0, 1) := by decide +kernel
theorem dX6_findEnds_60 : decode mX6_findEnds.2.1 60 = .ok (.iadd, 1) := by decide +kernel
theorem dX6_findEnds_61 : decode mX6_findEnds.2.1 61 = .ok (.istore_n 3, 1) := by decide +kernel
theorem dX6_findEnds_62 : decode mX6_findEnds.2.1 62 = .ok (.iload_n 3, 1) := by decide +kernel
theorem dX6_findEnds_63 : decode mX6_findEnds.2.1 63 = .ok (.aload_n 0, 1) := by decide +kernel
theorem dX6_findEnds_64 : decode mX6_findEnds.2.1 64 = .ok (.getfield 68, 3) := by decide +kernel
theorem dX6_findEnds_67 : decode mX6_findEnds.2.1 67 = .ok (.iload 4, 2) := by decide +kernel
theorem dX6_findEnds_69 : decode mX6_findEnds.2.1 69 = .ok (.iaload, 1) := by decide +kernel
theorem dX6_findEnds_70 : decode mX6_findEnds.2.1 70 = .ok (.if_icmp .le 7, 3) := by decide +kernel
theorem dX6_findEnds_73 : decode mX6_findEnds.2.1 73 = .ok (.iload_n 3, 1) := by decide +kernel
theorem dX6_findEnds_74 : decode mX6_findEnds.2.1 74 = .ok (.goto 10, 3) := by decide +kernel
theorem dX6_findEnds_77 : decode mX6_findEnds.2.1 77 = .ok (.aload_n 0, 1) := by decide +kernel
theorem dX6_findEnds_78 : decode mX6_findEnds.2.1 78 = .ok (.getfield 68, 3) := by decide +kernel
theorem dX6_findEnds_81 : decode mX6_findEnds.2.1 81 = .ok (.iload 4, 2) := by decide +kernel
theorem dX6_findEnds_83 : decode mX6_findEnds.2.1 83 = .ok (.iaload, 1) := by decide +kernel
theorem dX6_findEnds_84 : decode mX6_findEnds.2.1 84 = .ok (.istore_n 3, 1) := by decide +kernel
theorem dX6_findEnds_85 : decode mX6_findEnds.2.1 85 = .ok (.iload_n 3, 1) := by decide +kernel
theorem dX6_findEnds_86 : decode mX6_findEnds.2.1 86 = .ok (.aload_n 0, 1) := by decide +kernel
theorem dX6_findEnds_87 : decode mX6_findEnds.2.1 87 = .ok (.getfield 56, 3) := by decide +kernel
theorem dX6_findEnds_90 : decode mX6_findEnds.2.1 90 = .ok (.iconst 5, 1) := by decide +kernel
theorem dX6_findEnds_91 : decode mX6_findEnds.2.1 91 = .ok (.aload_n 0, 1) := by decide +kernel
theorem dX6_findEnds_92 : decode mX6_findEnds.2.1 92 = .ok (.getfield 62, 3) := by decide +kernel
theorem dX6_findEnds_95 : decode mX6_findEnds.2.1 95 = .ok (.iload_n 2, 1) := by decide +kernel
theorem dX6_findEnds_96 : decode mX6_findEnds.2.1 96 = .ok (.iaload, 1) := by decide +kernel
theorem dX6_findEnds_97 : decode mX6_findEnds.2.1 97 = .ok (.imul, 1) := by decide +kernel
theorem dX6_findEnds_98 : decode mX6_findEnds.2.1 98 = .ok (.iload 4, 2) := by decide +kernel
theorem dX6_findEnds_100 : decode mX6_findEnds.2.1 100 = .ok (.iadd, 1) := by decide +kernel
theorem dX6_findEnds_101 : decode mX6_findEnds.2.1 101 = .ok (.iaload, 1) := by decide +kernel
theorem dX6_findEnds_102 : decode mX6_findEnds.2.1 102 = .ok (.iadd, 1) := by decide +kernel
theorem dX6_findEnds_103 : decode mX6_findEnds.2.1 103 = .ok (.istore_n 3, 1) := by decide +kernel
theorem dX6_findEnds_104 : decode mX6_findEnds.2.1 104 = .ok (.aload_n 0, 1) := by decide +kernel
theorem dX6_findEnds_105 : decode mX6_findEnds.2.1 105 = .ok (.getfield 68, 3) := by decide +kernel
theorem dX6_findEnds_108 : decode mX6_findEnds.2.1 108 = .ok (.iload 4, 2) := by decide +kernel
theorem dX6_findEnds_110 : decode mX6_findEnds.2.1 110 = .ok (.iload_n 3, 1) := by decide +kernel
theorem dX6_findEnds_111 : decode mX6_findEnds.2.1 111 = .ok (.iastore, 1) := by decide +kernel
theorem dX6_findEnds_112 : decode mX6_findEnds.2.1 112 = .ok (.iinc 4 1, 3) := by decide +kernel
theorem dX6_findEnds_115 : decode mX6_findEnds.2.1 115 = .ok (.goto (-83), 3) := by decide +kernel
theorem dX6_findEnds_118 : decode mX6_findEnds.2.1 118 = .ok (.aload_n 0, 1) := by decide +kernel
theorem dX6_findEnds_119 : decode mX6_findEnds.2.1 119 = .ok (.getfield 65, 3) := by decide +kernel
theorem dX6_findEnds_122 : decode mX6_findEnds.2.1 122 = .ok (.iload_n 2, 1) := by decide +kernel
theorem dX6_findEnds_123 : decode mX6_findEnds.2.1 123 = .ok (.iload_n 3, 1) := by decide +kernel
theorem dX6_findEnds_124 : decode mX6_findEnds.2.1 124 = .ok (.iastore, 1) := by decide +kernel
theorem dX6_findEnds_125 : decode mX6_findEnds.2.1 125 = .ok (.iinc 2 1, 3) := by decide +kernel
theorem dX6_findEnds_128 : decode mX6_findEnds.2.1 128 = .ok (.goto (-106), 3) := by decide +kernel
theorem dX6_findEnds_131 : decode mX6_findEnds.2.1 131 = .ok (.return_, 1) := by decide +kernel
theorem dX6_plan_0 : decode mX6_plan.2.1 0 = .ok (.iload_n 1, 1) := by decide +kernel
theorem dX6_plan_1 : decode mX6_plan.2.1 1 = .ok (.ifCond .lt 12, 3) := by decide +kernel
theorem dX6_plan_4 : decode mX6_plan.2.1 4 = .ok (.iload_n 1, 1) := by decide +kernel
theorem dX6_plan_5 : decode mX6_plan.2.1 5 = .ok (.aload_n 0, 1) := by decide +kernel
theorem dX6_plan_6 : decode mX6_plan.2.1 6 = .ok (.getfield 126, 3) := by decide +kernel
theorem dX6_plan_9 : decode mX6_plan.2.1 9 = .ok (.ishr, 1) := by decide +kernel
theorem dX6_plan_10 : decode mX6_plan.2.1 10 = .ok (.ifCond .eq 6, 3) := by decide +kernel
theorem dX6_plan_13 : decode mX6_plan.2.1 13 = .ok (.bipush (-2), 2) := by decide +kernel
theorem dX6_plan_15 : decode mX6_plan.2.1 15 = .ok (.ireturn, 1) := by decide +kernel
theorem dX6_plan_16 : decode mX6_plan.2.1 16 = .ok (.iload_n 1, 1) := by decide +kernel
theorem dX6_plan_17 : decode mX6_plan.2.1 17 = .ok (.invokestatic 141, 3) := by decide +kernel
theorem dX6_plan_20 : decode mX6_plan.2.1 20 = .ok (.istore_n 2, 1) := by decide +kernel
theorem dX6_plan_21 : decode mX6_plan.2.1 21 = .ok (.iload_n 2, 1) := by decide +kernel
theorem dX6_plan_22 : decode mX6_plan.2.1 22 = .ok (.iconst 1, 1) := by decide +kernel
theorem dX6_plan_23 : decode mX6_plan.2.1 23 = .ok (.bipush 7, 2) := by decide +kernel
theorem dX6_plan_25 : decode mX6_plan.2.1 25 = .ok (.invokestatic 129, 3) := by decide +kernel
theorem dX6_plan_28 : decode mX6_plan.2.1 28 = .ok (.ifCond .ne 6, 3) := by decide +kernel
theorem dX6_plan_31 : decode mX6_plan.2.1 31 = .ok (.bipush (-3), 2) := by decide +kernel
theorem dX6_plan_33 : decode mX6_plan.2.1 33 = .ok (.ireturn, 1) := by decide +kernel
theorem dX6_plan_34 : decode mX6_plan.2.1 34 = .ok (.iconst 0, 1) := by decide +kernel
theorem dX6_plan_35 : decode mX6_plan.2.1 35 = .ok (.istore_n 3, 1) := by decide +kernel
theorem dX6_plan_36 : decode mX6_plan.2.1 36 = .ok (.iload_n 3, 1) := by decide +kernel
theorem dX6_plan_37 : decode mX6_plan.2.1 37 = .ok (.bipush 50, 2) := by decide +kernel
theorem dX6_plan_39 : decode mX6_plan.2.1 39 = .ok (.if_icmp .ge 21, 3) := by decide +kernel
theorem dX6_plan_42 : decode mX6_plan.2.1 42 = .ok (.aload_n 0, 1) := by decide +kernel
theorem dX6_plan_43 : decode mX6_plan.2.1 43 = .ok (.getfield 56, 3) := by decide +kernel
theorem dX6_plan_46 : decode mX6_plan.2.1 46 = .ok (.iload_n 3, 1) := by decide +kernel
theorem dX6_plan_47 : decode mX6_plan.2.1 47 = .ok (.aload_n 0, 1) := by decide +kernel
theorem dX6_plan_48 : decode mX6_plan.2.1 48 = .ok (.getfield 32, 3) := by decide +kernel
theorem dX6_plan_51 : decode mX6_plan.2.1 51 = .ok (.iload_n 3, 1) := by decide +kernel
theorem dX6_plan_52 : decode mX6_plan.2.1 52 = .ok (.iaload, 1) := by decide +kernel
theorem dX6_plan_53 : decode mX6_plan.2.1 53 = .ok (.iastore, 1) := by decide +kernel
theorem dX6_plan_54 : decode mX6_plan.2.1 54 = .ok (.iinc 3 1, 3) := by decide +kernel
theorem dX6_plan_57 : decode mX6_plan.2.1 57 = .ok (.goto (-21), 3) := by decide +kernel
theorem dX6_plan_60 : decode mX6_plan.2.1 60 = .ok (.iconst 0, 1) := by decide +kernel
theorem dX6_plan_61 : decode mX6_plan.2.1 61 = .ok (.istore_n 3, 1) := by decide +kernel
theorem dX6_plan_62 : decode mX6_plan.2.1 62 = .ok (.iload_n 3, 1) := by decide +kernel
theorem dX6_plan_63 : decode mX6_plan.2.1 63 = .ok (.bipush 10, 2) := by decide +kernel
theorem dX6_plan_65 : decode mX6_plan.2.1 65 = .ok (.if_icmp .ge 21, 3) := by decide +kernel
theorem dX6_plan_68 : decode mX6_plan.2.1 68 = .ok (.aload_n 0, 1) := by decide +kernel
theorem dX6_plan_69 : decode mX6_plan.2.1 69 = .ok (.getfield 59, 3) := by decide +kernel
theorem dX6_plan_72 : decode mX6_plan.2.1 72 = .ok (.iload_n 3, 1) := by decide +kernel
theorem dX6_plan_73 : decode mX6_plan.2.1 73 = .ok (.aload_n 0, 1) := by decide +kernel
theorem dX6_plan_74 : decode mX6_plan.2.1 74 = .ok (.getfield 35, 3) := by decide +kernel
theorem dX6_plan_77 : decode mX6_plan.2.1 77 = .ok (.iload_n 3, 1) := by decide +kernel
theorem dX6_plan_78 : decode mX6_plan.2.1 78 = .ok (.iaload, 1) := by decide +kernel
theorem dX6_plan_79 : decode mX6_plan.2.1 79 = .ok (.iastore, 1) := by decide +kernel
theorem dX6_plan_80 : decode mX6_plan.2.1 80 = .ok (.iinc 3 1, 3) := by decide +kernel
theorem dX6_plan_83 : decode mX6_plan.2.1 83 = .ok (.goto (-21), 3) := by decide +kernel
theorem dX6_plan_86 : decode mX6_plan.2.1 86 = .ok (.iconst 1, 1) := by decide +kernel
theorem dX6_plan_87 : decode mX6_plan.2.1 87 = .ok (.istore_n 3, 1) := by decide +kernel
theorem dX6_plan_88 : decode mX6_plan.2.1 88 = .ok (.iconst 2, 1) := by decide +kernel
theorem dX6_plan_89 : decode mX6_plan.2.1 89 = .ok (.istore 4, 2) := by decide +kernel
theorem dX6_plan_91 : decode mX6_plan.2.1 91 = .ok (.iload 4, 2) := by decide +kernel
theorem dX6_plan_93 : decode mX6_plan.2.1 93 = .ok (.iload_n 2, 1) := by decide +kernel
theorem dX6_plan_94 : decode mX6_plan.2.1 94 = .ok (.if_icmp .gt 14, 3) := by decide +kernel
theorem dX6_plan_97 : decode mX6_plan.2.1 97 = .ok (.iload_n 3, 1) := by decide +kernel
theorem dX6_plan_98 : decode mX6_plan.2.1 98 = .ok (.iload 4, 2) := by decide +kernel
theorem dX6_plan_100 : decode mX6_plan.2.1 100 = .ok (.imul, 1) := by decide +kernel
theorem dX6_plan_101 : decode mX6_plan.2.1 101 = .ok (.istore_n 3, 1) := by decide +kernel
theorem dX6_plan_102 : decode mX6_plan.2.1 102 = .ok (.iinc 4 1, 3) := by decide +kernel
theorem dX6_plan_105 : decode mX6_plan.2.1 105 = .ok (.goto (-14), 3) := by decide +kernel
theorem dX6_plan_108 : decode mX6_plan.2.1 108 = .ok (.iconst (-1), 1) := by decide +kernel
theorem dX6_plan_109 : decode mX6_plan.2.1 109 = .ok (.istore 4, 2) := by decide +kernel
theorem dX6_plan_111 : decode mX6_plan.2.1 111 = .ok (.iconst 0, 1) := by decide +kernel
theorem dX6_plan_112 : decode mX6_plan.2.1 112 = .ok (.istore 5, 2) := by decide +kernel
theorem dX6_plan_114 : decode mX6_plan.2.1 114 = .ok (.iconst 0, 1) := by decide +kernel
theorem dX6_plan_115 : decode mX6_plan.2.1 115 = .ok (.istore 6, 2) := by decide +kernel
theorem dX6_plan_117 : decode mX6_plan.2.1 117 = .ok (.iload 6, 2) := by decide +kernel
theorem dX6_plan_119 : decode mX6_plan.2.1 119 = .ok (.iload_n 3, 1) := by decide +kernel
theorem dX6_plan_120 : decode mX6_plan.2.1 120 = .ok (.if_icmp .ge 182, 3) := by decide +kernel
theorem dX6_plan_123 : decode mX6_plan.2.1 123 = .ok (.aload_n 0, 1) := by decide +kernel
theorem dX6_plan_124 : decode mX6_plan.2.1 124 = .ok (.iload_n 1, 1) := by decide +kernel
theorem dX6_plan_125 : decode mX6_plan.2.1 125 = .ok (.iload_n 2, 1) := by decide +kernel
theorem dX6_plan_126 : decode mX6_plan.2.1 126 = .ok (.iload_n 3, 1) := by decide +kernel
theorem dX6_plan_127 : decode mX6_plan.2.1 127 = .ok (.iload 6, 2) := by decide +kernel
theorem dX6_plan_129 : decode mX6_plan.2.1 129 = .ok (.invokevirtual 154, 3) := by decide +kernel
theorem dX6_plan_132 : decode mX6_plan.2.1 132 = .ok (.aload_n 0, 1) := by decide +kernel
theorem dX6_plan_133 : decode mX6_plan.2.1 133 = .ok (.iload_n 2, 1) := by decide +kernel
theorem dX6_plan_134 : decode mX6_plan.2.1 134 = .ok (.invokevirtual 158, 3) := by decide +kernel
theorem dX6_plan_137 : decode mX6_plan.2.1 137 = .ok (.iconst 0, 1) := by decide +kernel
theorem dX6_plan_138 : decode mX6_plan.2.1 138 = .ok (.istore 7, 2) := by decide +kernel
theorem dX6_plan_140 : decode mX6_plan.2.1 140 = .ok (.iconst 0, 1) := by decide +kernel
theorem dX6_plan_141 : decode mX6_plan.2.1 141 = .ok (.istore 8, 2) := by decide +kernel
theorem dX6_plan_143 : decode mX6_plan.2.1 143 = .ok (.iload 8, 2) := by decide +kernel
theorem dX6_plan_145 : decode mX6_plan.2.1 145 = .ok (.iload_n 2, 1) := by decide +kernel
theorem dX6_plan_146 : decode mX6_plan.2.1 146 = .ok (.if_icmp .ge 60, 3) := by decide +kernel
theorem dX6_plan_149 : decode mX6_plan.2.1 149 = .ok (.aload_n 0, 1) := by decide +kernel
theorem dX6_plan_150 : decode mX6_plan.2.1 150 = .ok (.getfield 65, 3) := by decide +kernel
theorem dX6_plan_153 : decode mX6_plan.2.1 153 = .ok (.iload 8, 2) := by decide +kernel
theorem dX6_plan_155 : decode mX6_plan.2.1 155 = .ok (.iaload, 1) := by decide +kernel
theorem dX6_plan_156 : decode mX6_plan.2.1 156 = .ok (.aload_n 0, 1) := by decide +kernel
theorem dX6_plan_157 : decode mX6_plan.2.1 157 = .ok (.getfield 38, 3) := by decide +kernel
theorem dX6_plan_160 : decode mX6_plan.2.1 160 = .ok (.aload_n 0, 1) := by decide +kernel
theorem dX6_plan_161 : decode mX6_plan.2.1 161 = .ok (.getfield 62, 3) := by decide +kernel
theorem dX6_plan_164 : decode mX6_plan.2.1 164 = .ok (.iload 8, 2) := by decide +kernel
theorem dX6_plan_166 : decode mX6_plan.2.1 166 = .ok (.iaload, 1) := by decide +kernel
theorem dX6_plan_167 : decode mX6_plan.2.1 167 = .ok (.iaload, 1) := by decide +kernel
theorem dX6_plan_168 : decode mX6_plan.2.1 168 = .ok (.isub, 1) := by decide +kernel
theorem dX6_plan_169 : decode mX6_plan.2.1 169 = .ok (.istore 9, 2) := by decide +kernel
theorem dX6_plan_171 : decode mX6_plan.2.1 171 = .ok (.iload 7, 2) := by decide +kernel
theorem dX6_plan_173 : decode mX6_plan.2.1 173 = .ok (.iload 9, 2) := by decide +kernel
theorem dX6_plan_175 : decode mX6_plan.2.1 175 = .ok (.ifCond .le 21, 3) := by decide +kernel
theorem dX6_plan_178 : decode mX6_plan.2.1 178 = .ok (.iload 9, 2) := by decide +kernel
theorem dX6_plan_180 : decode mX6_plan.2.1 180 = .ok (.aload_n 0, 1) := by decide +kernel
theorem dX6_plan_181 : decode mX6_plan.2.1 181 = .ok (.getfield 41, 3) := by decide +kernel
theorem dX6_plan_184 : decode mX6_plan.2.1 184 = .ok (.aload_n 0, 1) := by decide +kernel
theorem dX6_plan_185 : decode mX6_plan.2.1 185 = .ok (.getfield 62, 3) := by decide +kernel
theorem dX6_plan_188 : decode mX6_plan.2.1 188 = .ok (.iload 8, 2) := by decide +kernel
theorem dX6_plan_190 : decode mX6_plan.2.1 190 = .ok (.iaload, 1) := by decide +kernel
theorem dX6_plan_191 : decode mX6_plan.2.1 191 = .ok (.iaload, 1) := by decide +kernel
theorem dX6_plan_192 : decode mX6_plan.2.1 192 = .ok (.imul, 1) := by decide +kernel
theorem dX6_plan_193 : decode mX6_plan.2.1 193 = .ok (.goto 4, 3) := by decide +kernel
theorem dX6_plan_196 : decode mX6_plan.2.1 196 = .ok (.iconst 0, 1) := by decide +kernel
theorem dX6_plan_197 : decode mX6_plan.2.1 197 = .ok (.iadd, 1) := by decide +kernel
theorem dX6_plan_198 : decode mX6_plan.2.1 198 = .ok (.istore 7, 2) := by decide +kernel
theorem dX6_plan_200 : decode mX6_plan.2.1 200 = .ok (.iinc 8 1, 3) := by decide +kernel
theorem dX6_plan_203 : decode mX6_plan.2.1 203 = .ok (.goto (-60), 3) := by decide +kernel
theorem dX6_plan_206 : decode mX6_plan.2.1 206 = .ok (.iload 4, 2) := by decide +kernel
theorem dX6_plan_208 : decode mX6_plan.2.1 208 = .ok (.iconst (-1), 1) := by decide +kernel
theorem dX6_plan_209 : decode mX6_plan.2.1 209 = .ok (.if_icmp .eq 30, 3) := by decide +kernel
theorem dX6_plan_212 : decode mX6_plan.2.1 212 = .ok (.iload 7, 2) := by decide +kernel
theorem dX6_plan_214 : decode mX6_plan.2.1 214 = .ok (.iload 4, 2) := by decide +kernel
theorem dX6_plan_216 : decode mX6_plan.2.1 216 = .ok (.if_icmp .lt 23, 3) := by decide +kernel
theorem dX6_plan_219 : decode mX6_plan.2.1 219 = .ok (.iload 7, 2) := by decide +kernel
theorem dX6_plan_221 : decode mX6_plan.2.1 221 = .ok (.iload 4, 2) := by decide +kernel
theorem dX6_plan_223 : decode mX6_plan.2.1 223 = .ok (.if_icmp .ne 73, 3) := by decide +kernel
theorem dX6_plan_226 : decode mX6_plan.2.1 226 = .ok (.aload_n 0, 1) := by decide +kernel
theorem dX6_plan_227 : decode mX6_plan.2.1 227 = .ok (.getfield 65, 3) := by decide +kernel
theorem dX6_plan_230 : decode mX6_plan.2.1 230 = .ok (.iload_n 2, 1) := by decide +kernel
theorem dX6_plan_231 : decode mX6_plan.2.1 231 = .ok (.iconst 1, 1) := by decide +kernel
theorem dX6_plan_232 : decode mX6_plan.2.1 232 = .ok (.isub, 1) := by decide +kernel
theorem dX6_plan_233 : decode mX6_plan.2.1 233 = .ok (.iaload, 1) := by decide +kernel
theorem dX6_plan_234 : decode mX6_plan.2.1 234 = .ok (.iload 5, 2) := by decide +kernel
theorem dX6_plan_236 : decode mX6_plan.2.1 236 = .ok (.if_icmp .ge 60, 3) := by decide +kernel
theorem dX6_plan_239 : decode mX6_plan.2.1 239 = .ok (.iload 7, 2) := by decide +kernel
theorem dX6_plan_241 : decode mX6_plan.2.1 241 = .ok (.istore 4, 2) := by decide +kernel
theorem dX6_plan_243 : decode mX6_plan.2.1 243 = .ok (.aload_n 0, 1) := by decide +kernel
theorem dX6_plan_244 : decode mX6_plan.2.1 244 = .ok (.getfield 65, 3) := by decide +kernel
theorem dX6_plan_247 : decode mX6_plan.2.1 247 = .ok (.iload_n 2, 1) := by decide +kernel
theorem dX6_plan_248 : decode mX6_plan.2.1 248 = .ok (.iconst 1, 1) := by decide +kernel
theorem dX6_plan_249 : decode mX6_plan.2.1 249 = .ok (.isub, 1) := by decide +kernel
theorem dX6_plan_250 : decode mX6_plan.2.1 250 = .ok (.iaload, 1) := by decide +kernel
theorem dX6_plan_251 : decode mX6_plan.2.1 251 = .ok (.istore 5, 2) := by decide +kernel
theorem dX6_plan_253 : decode mX6_plan.2.1 253 = .ok (.iconst 0, 1) := by decide +kernel
theorem dX6_plan_254 : decode mX6_plan.2.1 254 = .ok (.istore 8, 2) := by decide +kernel
theorem dX6_plan_256 : decode mX6_plan.2.1 256 = .ok (.iload 8, 2) := by decide +kernel
theorem dX6_plan_258 : decode mX6_plan.2.1 258 = .ok (.iload_n 2, 1) := by decide +kernel
theorem dX6_plan_259 : decode mX6_plan.2.1 259 = .ok (.if_icmp .ge 37, 3) := by decide +kernel
theorem dX6_plan_262 : decode mX6_plan.2.1 262 = .ok (.aload_n 0, 1) := by decide +kernel
theorem dX6_plan_263 : decode mX6_plan.2.1 263 = .ok (.getfield 50, 3) := by decide +kernel
theorem dX6_plan_266 : decode mX6_plan.2.1 266 = .ok (.iload 8, 2) := by decide +kernel
theorem dX6_plan_268 : decode mX6_plan.2.1 268 = .ok (.aload_n 0, 1) := by decide +kernel
theorem dX6_plan_269 : decode mX6_plan.2.1 269 = .ok (.getfield 62, 3) := by decide +kernel
theorem dX6_plan_272 : decode mX6_plan.2.1 272 = .ok (.iload 8, 2) := by decide +kernel
theorem dX6_plan_274 : decode mX6_plan.2.1 274 = .ok (.iaload, 1) := by decide +kernel
theorem dX6_plan_275 : decode mX6_plan.2.1 275 = .ok (.iastore, 1) := by decide +kernel
theorem dX6_plan_276 : decode mX6_plan.2.1 276 = .ok (.aload_n 0, 1) := by decide +kernel
theorem dX6_plan_277 : decode mX6_plan.2.1 277 = .ok (.getfield 53, 3) := by decide +kernel
theorem dX6_plan_280 : decode mX6_plan.2.1 280 = .ok (.iload 8, 2) := by decide +kernel
theorem dX6_plan_282 : decode mX6_plan.2.1 282 = .ok (.aload_n 0, 1) := by decide +kernel
theorem dX6_plan_283 : decode mX6_plan.2.1 283 = .ok (.getfield 65, 3) := by decide +kernel
theorem dX6_plan_286 : decode mX6_plan.2.1 286 = .ok (.iload 8, 2) := by decide +kernel
theorem dX6_plan_288 : decode mX6_plan.2.1 288 = .ok (.iaload, 1) := by decide +kernel
theorem dX6_plan_289 : decode mX6_plan.2.1 289 = .ok (.iastore, 1) := by decide +kernel
theorem dX6_plan_290 : decode mX6_plan.2.1 290 = .ok (.iinc 8 1, 3) := by decide +kernel
theorem dX6_plan_293 : decode mX6_plan.2.1 293 = .ok (.goto (-37), 3) := by decide +kernel
theorem dX6_plan_296 : decode mX6_plan.2.1 296 = .ok (.iinc 6 1, 3) := by decide +kernel
theorem dX6_plan_299 : decode mX6_plan.2.1 299 = .ok (.goto (-182), 3) := by decide +kernel
theorem dX6_plan_302 : decode mX6_plan.2.1 302 = .ok (.aload_n 0, 1) := by decide +kernel
theorem dX6_plan_303 : decode mX6_plan.2.1 303 = .ok (.iload_n 2, 1) := by decide +kernel
theorem dX6_plan_304 : decode mX6_plan.2.1 304 = .ok (.putfield 162, 3) := by decide +kernel
theorem dX6_plan_307 : decode mX6_plan.2.1 307 = .ok (.iload 4, 2) := by decide +kernel
theorem dX6_plan_309 : decode mX6_plan.2.1 309 = .ok (.ireturn, 1) := by decide +kernel
theorem dX6_tell_0 : decode mX6_tell.2.1 0 = .ok (.iconst 0, 1) := by decide +kernel
theorem dX6_tell_1 : decode mX6_tell.2.1 1 = .ok (.istore 5, 2) := by decide +kernel
theorem dX6_tell_3 : decode mX6_tell.2.1 3 = .ok (.iload 4, 2) := by decide +kernel
theorem dX6_tell_5 : decode mX6_tell.2.1 5 = .ok (.istore 6, 2) := by decide +kernel
theorem dX6_tell_7 : decode mX6_tell.2.1 7 = .ok (.iload_n 3, 1) := by decide +kernel
theorem dX6_tell_8 : decode mX6_tell.2.1 8 = .ok (.istore 7, 2) := by decide +kernel
theorem dX6_tell_10 : decode mX6_tell.2.1 10 = .ok (.iconst 0, 1) := by decide +kernel
theorem dX6_tell_11 : decode mX6_tell.2.1 11 = .ok (.istore 8, 2) := by decide +kernel
theorem dX6_tell_13 : decode mX6_tell.2.1 13 = .ok (.iload 8, 2) := by decide +kernel
theorem dX6_tell_15 : decode mX6_tell.2.1 15 = .ok (.iload_n 2, 1) := by decide +kernel
theorem dX6_tell_16 : decode mX6_tell.2.1 16 = .ok (.if_icmp .ge 94, 3) := by decide +kernel
theorem dX6_tell_19 : decode mX6_tell.2.1 19 = .ok (.iload 7, 2) := by decide +kernel
theorem dX6_tell_21 : decode mX6_tell.2.1 21 = .ok (.iload_n 2, 1) := by decide +kernel
theorem dX6_tell_22 : decode mX6_tell.2.1 22 = .ok (.iload 8, 2) := by decide +kernel
theorem dX6_tell_24 : decode mX6_tell.2.1 24 = .ok (.isub, 1) := by decide +kernel
theorem dX6_tell_25 : decode mX6_tell.2.1 25 = .ok (.idiv, 1) := by decide +kernel
theorem dX6_tell_26 : decode mX6_tell.2.1 26 = .ok (.istore 7, 2) := by decide +kernel
theorem dX6_tell_28 : decode mX6_tell.2.1 28 = .ok (.iload 6, 2) := by decide +kernel
theorem dX6_tell_30 : decode mX6_tell.2.1 30 = .ok (.iload 7, 2) := by decide +kernel
theorem dX6_tell_32 : decode mX6_tell.2.1 32 = .ok (.idiv, 1) := by decide +kernel
theorem dX6_tell_33 : decode mX6_tell.2.1 33 = .ok (.istore 9, 2) := by decide +kernel
theorem dX6_tell_35 : decode mX6_tell.2.1 35 = .ok (.iload 6, 2) := by decide +kernel
theorem dX6_tell_37 : decode mX6_tell.2.1 37 = .ok (.iload 7, 2) := by decide +kernel
theorem dX6_tell_39 : decode mX6_tell.2.1 39 = .ok (.irem, 1) := by decide +kernel
theorem dX6_tell_40 : decode mX6_tell.2.1 40 = .ok (.istore 6, 2) := by decide +kernel
theorem dX6_tell_42 : decode mX6_tell.2.1 42 = .ok (.iconst 0, 1) := by decide +kernel
theorem dX6_tell_43 : decode mX6_tell.2.1 43 = .ok (.istore 10, 2) := by decide +kernel
theorem dX6_tell_45 : decode mX6_tell.2.1 45 = .ok (.iload_n 1, 1) := by decide +kernel
theorem dX6_tell_46 : decode mX6_tell.2.1 46 = .ok (.iload 5, 2) := by decide +kernel
theorem dX6_tell_48 : decode mX6_tell.2.1 48 = .ok (.iconst (-1), 1) := by decide +kernel
theorem dX6_tell_49 : decode mX6_tell.2.1 49 = .ok (.ixor, 1) := by decide +kernel
theorem dX6_tell_50 : decode mX6_tell.2.1 50 = .ok (.iand, 1) := by decide +kernel
theorem dX6_tell_51 : decode mX6_tell.2.1 51 = .ok (.iload 10, 2) := by decide +kernel
theorem dX6_tell_53 : decode mX6_tell.2.1 53 = .ok (.ishr, 1) := by decide +kernel
theorem dX6_tell_54 : decode mX6_tell.2.1 54 = .ok (.iconst 1, 1) := by decide +kernel
theorem dX6_tell_55 : decode mX6_tell.2.1 55 = .ok (.iand, 1) := by decide +kernel
theorem dX6_tell_56 : decode mX6_tell.2.1 56 = .ok (.ifCond .eq 8, 3) := by decide +kernel
theorem dX6_tell_59 : decode mX6_tell.2.1 59 = .ok (.iload 9, 2) := by decide +kernel
theorem dX6_tell_61 : decode mX6_tell.2.1 61 = .ok (.ifCond .le 25, 3) := by decide +kernel
theorem dX6_tell_64 : decode mX6_tell.2.1 64 = .ok (.iload 9, 2) := by decide +kernel
theorem dX6_tell_66 : decode mX6_tell.2.1 66 = .ok (.iload_n 1, 1) := by decide +kernel
theorem dX6_tell_67 : decode mX6_tell.2.1 67 = .ok (.iload 5, 2) := by decide +kernel
theorem dX6_tell_69 : decode mX6_tell.2.1 69 = .ok (.iconst (-1), 1) := by decide +kernel
theorem dX6_tell_70 : decode mX6_tell.2.1 70 = .ok (.ixor, 1) := by decide +kernel
theorem dX6_tell_71 : decode mX6_tell.2.1 71 = .ok (.iand, 1) := by decide +kernel
theorem dX6_tell_72 : decode mX6_tell.2.1 72 = .ok (.iload 10, 2) := by decide +kernel
theorem dX6_tell_74 : decode mX6_tell.2.1 74 = .ok (.ishr, 1) := by decide +kernel
theorem dX6_tell_75 : decode mX6_tell.2.1 75 = .ok (.iconst 1, 1) := by decide +kernel
theorem dX6_tell_76 : decode mX6_tell.2.1 76 = .ok (.iand, 1) := by decide +kernel
theorem dX6_tell_77 : decode mX6_tell.2.1 77 = .ok (.isub, 1) := by decide +kernel
theorem dX6_tell_78 : decode mX6_tell.2.1 78 = .ok (.istore 9, 2) := by decide +kernel
theorem dX6_tell_80 : decode mX6_tell.2.1 80 = .ok (.iinc 10 1, 3) := by decide +kernel
theorem dX6_tell_83 : decode mX6_tell.2.1 83 = .ok (.goto (-38), 3) := by decide +kernel
theorem dX6_tell_86 : decode mX6_tell.2.1 86 = .ok (.aload_n 0, 1) := by decide +kernel
theorem dX6_tell_87 : decode mX6_tell.2.1 87 = .ok (.getfield 62, 3) := by decide +kernel
theorem dX6_tell_90 : decode mX6_tell.2.1 90 = .ok (.iload 8, 2) := by decide +kernel
theorem dX6_tell_92 : decode mX6_tell.2.1 92 = .ok (.iload 10, 2) := by decide +kernel
theorem dX6_tell_94 : decode mX6_tell.2.1 94 = .ok (.iastore, 1) := by decide +kernel
theorem dX6_tell_95 : decode mX6_tell.2.1 95 = .ok (.iload 5, 2) := by decide +kernel
theorem dX6_tell_97 : decode mX6_tell.2.1 97 = .ok (.iconst 1, 1) := by decide +kernel
theorem dX6_tell_98 : decode mX6_tell.2.1 98 = .ok (.iload 10, 2) := by decide +kernel
theorem dX6_tell_100 : decode mX6_tell.2.1 100 = .ok (.ishl, 1) := by decide +kernel
theorem dX6_tell_101 : decode mX6_tell.2.1 101 = .ok (.ior, 1) := by decide +kernel
theorem dX6_tell_102 : decode mX6_tell.2.1 102 = .ok (.istore 5, 2) := by decide +kernel
theorem dX6_tell_104 : decode mX6_tell.2.1 104 = .ok (.iinc 8 1, 3) := by decide +kernel
theorem dX6_tell_107 : decode mX6_tell.2.1 107 = .ok (.goto (-94), 3) := by decide +kernel
theorem dX6_tell_110 : decode mX6_tell.2.1 110 = .ok (.return_, 1) := by decide +kernel
theorem dX6_planned_0 : decode mX6_planned.2.1 0 = .ok (.iload_n 1, 1) := by decide +kernel
theorem dX6_planned_1 : decode mX6_planned.2.1 1 = .ok (.iconst 0, 1) := by decide +kernel
theorem dX6_planned_2 : decode mX6_planned.2.1 2 = .ok (.aload_n 0, 1) := by decide +kernel
theorem dX6_planned_3 : decode mX6_planned.2.1 3 = .ok (.getfield 162, 3) := by decide +kernel
theorem dX6_planned_6 : decode mX6_planned.2.1 6 = .ok (.iconst 1, 1) := by decide +kernel
theorem dX6_planned_7 : decode mX6_planned.2.1 7 = .ok (.isub, 1) := by decide +kernel
theorem dX6_planned_8 : decode mX6_planned.2.1 8 = .ok (.invokestatic 129, 3) := by decide +kernel
theorem dX6_planned_11 : decode mX6_planned.2.1 11 = .ok (.ifCond .eq 12, 3) := by decide +kernel
theorem dX6_planned_14 : decode mX6_planned.2.1 14 = .ok (.iload_n 2, 1) := by decide +kernel
theorem dX6_planned_15 : decode mX6_planned.2.1 15 = .ok (.iconst 0, 1) := by decide +kernel
theorem dX6_planned_16 : decode mX6_planned.2.1 16 = .ok (.iconst 1, 1) := by decide +kernel
theorem dX6_planned_17 : decode mX6_planned.2.1 17 = .ok (.invokestatic 129, 3) := by decide +kernel
theorem dX6_planned_20 : decode mX6_planned.2.1 20 = .ok (.ifCond .ne 6, 3) := by decide +kernel
theorem dX6_planned_23 : decode mX6_planned.2.1 23 = .ok (.bipush (-3), 2) := by decide +kernel
theorem dX6_planned_25 : decode mX6_planned.2.1 25 = .ok (.ireturn, 1) := by decide +kernel
theorem dX6_planned_26 : decode mX6_planned.2.1 26 = .ok (.iload_n 2, 1) := by decide +kernel
theorem dX6_planned_27 : decode mX6_planned.2.1 27 = .ok (.ifCond .ne 12, 3) := by decide +kernel
theorem dX6_planned_30 : decode mX6_planned.2.1 30 = .ok (.aload_n 0, 1) := by decide +kernel
theorem dX6_planned_31 : decode mX6_planned.2.1 31 = .ok (.getfield 50, 3) := by decide +kernel
theorem dX6_planned_34 : decode mX6_planned.2.1 34 = .ok (.iload_n 1, 1) := by decide +kernel
theorem dX6_planned_35 : decode mX6_planned.2.1 35 = .ok (.iaload, 1) := by decide +kernel
theorem dX6_planned_36 : decode mX6_planned.2.1 36 = .ok (.goto 9, 3) := by decide +kernel
theorem dX6_planned_39 : decode mX6_planned.2.1 39 = .ok (.aload_n 0, 1) := by decide +kernel
theorem dX6_planned_40 : decode mX6_planned.2.1 40 = .ok (.getfield 53, 3) := by decide +kernel
theorem dX6_planned_43 : decode mX6_planned.2.1 43 = .ok (.iload_n 1, 1) := by decide +kernel
theorem dX6_planned_44 : decode mX6_planned.2.1 44 = .ok (.iaload, 1) := by decide +kernel
theorem dX6_planned_45 : decode mX6_planned.2.1 45 = .ok (.ireturn, 1) := by decide +kernel
theorem dX6_delays_0 : decode mX6_delays.2.1 0 = .ok (.aload_n 0, 1) := by decide +kernel
theorem dX6_delays_1 : decode mX6_delays.2.1 1 = .ok (.iload_n 1, 1) := by decide +kernel
theorem dX6_delays_2 : decode mX6_delays.2.1 2 = .ok (.invokevirtual 133, 3) := by decide +kernel
theorem dX6_delays_5 : decode mX6_delays.2.1 5 = .ok (.ifCond .ne 6, 3) := by decide +kernel
theorem dX6_delays_8 : decode mX6_delays.2.1 8 = .ok (.bipush (-2), 2) := by decide +kernel
theorem dX6_delays_10 : decode mX6_delays.2.1 10 = .ok (.ireturn, 1) := by decide +kernel
theorem dX6_delays_11 : decode mX6_delays.2.1 11 = .ok (.iconst 0, 1) := by decide +kernel
theorem dX6_delays_12 : decode mX6_delays.2.1 12 = .ok (.istore_n 2, 1) := by decide +kernel
theorem dX6_delays_13 : decode mX6_delays.2.1 13 = .ok (.iconst 0, 1) := by decide +kernel
theorem dX6_delays_14 : decode mX6_delays.2.1 14 = .ok (.istore_n 3, 1) := by decide +kernel
theorem dX6_delays_15 : decode mX6_delays.2.1 15 = .ok (.iconst 0, 1) := by decide +kernel
theorem dX6_delays_16 : decode mX6_delays.2.1 16 = .ok (.istore 4, 2) := by decide +kernel
theorem dX6_delays_18 : decode mX6_delays.2.1 18 = .ok (.iload 4, 2) := by decide +kernel
theorem dX6_delays_20 : decode mX6_delays.2.1 20 = .ok (.aload_n 0, 1) := by decide +kernel
theorem dX6_delays_21 : decode mX6_delays.2.1 21 = .ok (.getfield 162, 3) := by decide +kernel
theorem dX6_delays_24 : decode mX6_delays.2.1 24 = .ok (.if_icmp .ge 30, 3) := by decide +kernel
theorem dX6_delays_27 : decode mX6_delays.2.1 27 = .ok (.iload_n 3, 1) := by decide +kernel
theorem dX6_delays_28 : decode mX6_delays.2.1 28 = .ok (.ifCond .ne 14, 3) := by decide +kernel
theorem dX6_delays_31 : decode mX6_delays.2.1 31 = .ok (.aload_n 0, 1) := by decide +kernel
theorem dX6_delays_32 : decode mX6_delays.2.1 32 = .ok (.getfield 50, 3) := by decide +kernel
theorem dX6_delays_35 : decode mX6_delays.2.1 35 = .ok (.iload 4, 2) := by decide +kernel
theorem dX6_delays_37 : decode mX6_delays.2.1 37 = .ok (.iaload, 1) := by decide +kernel
theorem dX6_delays_38 : decode mX6_delays.2.1 38 = .ok (.iload_n 1, 1) := by decide +kernel
theorem dX6_delays_39 : decode mX6_delays.2.1 39 = .ok (.if_icmp .ne 7, 3) := by decide +kernel
theorem dX6_delays_42 : decode mX6_delays.2.1 42 = .ok (.iconst 1, 1) := by decide +kernel
theorem dX6_delays_43 : decode mX6_delays.2.1 43 = .ok (.goto 4, 3) := by decide +kernel
theorem dX6_delays_46 : decode mX6_delays.2.1 46 = .ok (.iconst 0, 1) := by decide +kernel
theorem dX6_delays_47 : decode mX6_delays.2.1 47 = .ok (.istore_n 3, 1) := by decide +kernel
theorem dX6_delays_48 : decode mX6_delays.2.1 48 = .ok (.iinc 4 1, 3) := by decide +kernel
theorem dX6_delays_51 : decode mX6_delays.2.1 51 = .ok (.goto (-33), 3) := by decide +kernel
theorem dX6_delays_54 : decode mX6_delays.2.1 54 = .ok (.iload_n 3, 1) := by decide +kernel
theorem dX6_delays_55 : decode mX6_delays.2.1 55 = .ok (.ifCond .ne 6, 3) := by decide +kernel
theorem dX6_delays_58 : decode mX6_delays.2.1 58 = .ok (.bipush (-4), 2) := by decide +kernel
theorem dX6_delays_60 : decode mX6_delays.2.1 60 = .ok (.ireturn, 1) := by decide +kernel
theorem dX6_delays_61 : decode mX6_delays.2.1 61 = .ok (.aload_n 0, 1) := by decide +kernel
theorem dX6_delays_62 : decode mX6_delays.2.1 62 = .ok (.getfield 62, 3) := by decide +kernel
theorem dX6_delays_65 : decode mX6_delays.2.1 65 = .ok (.iconst 0, 1) := by decide +kernel
theorem dX6_delays_66 : decode mX6_delays.2.1 66 = .ok (.iload_n 1, 1) := by decide +kernel
theorem dX6_delays_67 : decode mX6_delays.2.1 67 = .ok (.iastore, 1) := by decide +kernel
theorem dX6_delays_68 : decode mX6_delays.2.1 68 = .ok (.iconst 1, 1) := by decide +kernel
theorem dX6_delays_69 : decode mX6_delays.2.1 69 = .ok (.istore_n 2, 1) := by decide +kernel
theorem dX6_delays_70 : decode mX6_delays.2.1 70 = .ok (.iconst 0, 1) := by decide +kernel
theorem dX6_delays_71 : decode mX6_delays.2.1 71 = .ok (.istore 4, 2) := by decide +kernel
theorem dX6_delays_73 : decode mX6_delays.2.1 73 = .ok (.iload 4, 2) := by decide +kernel
theorem dX6_delays_75 : decode mX6_delays.2.1 75 = .ok (.aload_n 0, 1) := by decide +kernel
theorem dX6_delays_76 : decode mX6_delays.2.1 76 = .ok (.getfield 162, 3) := by decide +kernel
theorem dX6_delays_79 : decode mX6_delays.2.1 79 = .ok (.if_icmp .ge 36, 3) := by decide +kernel
theorem dX6_delays_82 : decode mX6_delays.2.1 82 = .ok (.aload_n 0, 1) := by decide +kernel
theorem dX6_delays_83 : decode mX6_delays.2.1 83 = .ok (.getfield 50, 3) := by decide +kernel
theorem dX6_delays_86 : decode mX6_delays.2.1 86 = .ok (.iload 4, 2) := by decide +kernel
theorem dX6_delays_88 : decode mX6_delays.2.1 88 = .ok (.iaload, 1) := by decide +kernel
theorem dX6_delays_89 : decode mX6_delays.2.1 89 = .ok (.iload_n 1, 1) := by decide +kernel
theorem dX6_delays_90 : decode mX6_delays.2.1 90 = .ok (.if_icmp .eq 19, 3) := by decide +kernel
theorem dX6_delays_93 : decode mX6_delays.2.1 93 = .ok (.aload_n 0, 1) := by decide +kernel
theorem dX6_delays_94 : decode mX6_delays.2.1 94 = .ok (.getfield 62, 3) := by decide +kernel
theorem dX6_delays_97 : decode mX6_delays.2.1 97 = .ok (.iload_n 2, 1) := by decide +kernel
theorem dX6_delays_98 : decode mX6_delays.2.1 98 = .ok (.aload_n 0, 1) := by decide +kernel
theorem dX6_delays_99 : decode mX6_delays.2.1 99 = .ok (.getfield 50, 3) := by decide +kernel
theorem dX6_delays_102 : decode mX6_delays.2.1 102 = .ok (.iload 4, 2) := by decide +kernel
theorem dX6_delays_104 : decode mX6_delays.2.1 104 = .ok (.iaload, 1) := by decide +kernel
theorem dX6_delays_105 : decode mX6_delays.2.1 105 = .ok (.iastore, 1) := by decide +kernel
theorem dX6_delays_106 : decode mX6_delays.2.1 106 = .ok (.iinc 2 1, 3) := by decide +kernel
theorem dX6_delays_109 : decode mX6_delays.2.1 109 = .ok (.iinc 4 1, 3) := by decide +kernel
theorem dX6_delays_112 : decode mX6_delays.2.1 112 = .ok (.goto (-39), 3) := by decide +kernel
theorem dX6_delays_115 : decode mX6_delays.2.1 115 = .ok (.aload_n 0, 1) := by decide +kernel
theorem dX6_delays_116 : decode mX6_delays.2.1 116 = .ok (.iload_n 2, 1) := by decide +kernel
theorem dX6_delays_117 : decode mX6_delays.2.1 117 = .ok (.invokevirtual 158, 3) := by decide +kernel
theorem dX6_delays_120 : decode mX6_delays.2.1 120 = .ok (.iconst 0, 1) := by decide +kernel
theorem dX6_delays_121 : decode mX6_delays.2.1 121 = .ok (.istore 4, 2) := by decide +kernel
theorem dX6_delays_123 : decode mX6_delays.2.1 123 = .ok (.iconst 0, 1) := by decide +kernel
theorem dX6_delays_124 : decode mX6_delays.2.1 124 = .ok (.istore 5, 2) := by decide +kernel
theorem dX6_delays_126 : decode mX6_delays.2.1 126 = .ok (.iload 5, 2) := by decide +kernel
theorem dX6_delays_128 : decode mX6_delays.2.1 128 = .ok (.iload_n 2, 1) := by decide +kernel
theorem dX6_delays_129 : decode mX6_delays.2.1 129 = .ok (.if_icmp .ge 76, 3) := by decide +kernel
theorem dX6_delays_132 : decode mX6_delays.2.1 132 = .ok (.iconst 0, 1) := by decide +kernel
theorem dX6_delays_133 : decode mX6_delays.2.1 133 = .ok (.istore 6, 2) := by decide +kernel
theorem dX6_delays_135 : decode mX6_delays.2.1 135 = .ok (.iload 6, 2) := by decide +kernel
theorem dX6_delays_137 : decode mX6_delays.2.1 137 = .ok (.iload_n 2, 1) := by decide +kernel
theorem dX6_delays_138 : decode mX6_delays.2.1 138 = .ok (.if_icmp .ge 61, 3) := by decide +kernel
theorem dX6_delays_141 : decode mX6_delays.2.1 141 = .ok (.iload 4, 2) := by decide +kernel
theorem dX6_delays_143 : decode mX6_delays.2.1 143 = .ok (.aload_n 0, 1) := by decide +kernel
theorem dX6_delays_144 : decode mX6_delays.2.1 144 = .ok (.getfield 50, 3) := by decide +kernel
theorem dX6_delays_147 : decode mX6_delays.2.1 147 = .ok (.iload 6, 2) := by decide +kernel
theorem dX6_delays_149 : decode mX6_delays.2.1 149 = .ok (.iaload, 1) := by decide +kernel
theorem dX6_delays_150 : decode mX6_delays.2.1 150 = .ok (.aload_n 0, 1) := by decide +kernel
theorem dX6_delays_151 : decode mX6_delays.2.1 151 = .ok (.getfield 62, 3) := by decide +kernel
theorem dX6_delays_154 : decode mX6_delays.2.1 154 = .ok (.iload 5, 2) := by decide +kernel
theorem dX6_delays_156 : decode mX6_delays.2.1 156 = .ok (.iaload, 1) := by decide +kernel
theorem dX6_delays_157 : decode mX6_delays.2.1 157 = .ok (.if_icmp .ne 32, 3) := by decide +kernel
theorem dX6_delays_160 : decode mX6_delays.2.1 160 = .ok (.aload_n 0, 1) := by decide +kernel
theorem dX6_delays_161 : decode mX6_delays.2.1 161 = .ok (.getfield 65, 3) := by decide +kernel
theorem dX6_delays_164 : decode mX6_delays.2.1 164 = .ok (.iload 5, 2) := by decide +kernel
theorem dX6_delays_166 : decode mX6_delays.2.1 166 = .ok (.iaload, 1) := by decide +kernel
theorem dX6_delays_167 : decode mX6_delays.2.1 167 = .ok (.aload_n 0, 1) := by decide +kernel
theorem dX6_delays_168 : decode mX6_delays.2.1 168 = .ok (.getfield 53, 3) := by decide +kernel
theorem dX6_delays_171 : decode mX6_delays.2.1 171 = .ok (.iload 6, 2) := by decide +kernel
theorem dX6_delays_173 : decode mX6_delays.2.1 173 = .ok (.iaload, 1) := by decide +kernel
theorem dX6_delays_174 : decode mX6_delays.2.1 174 = .ok (.if_icmp .le 15, 3) := by decide +kernel
theorem dX6_delays_177 : decode mX6_delays.2.1 177 = .ok (.iconst 1, 1) := by decide +kernel
theorem dX6_delays_178 : decode mX6_delays.2.1 178 = .ok (.aload_n 0, 1) := by decide +kernel
theorem dX6_delays_179 : decode mX6_delays.2.1 179 = .ok (.getfield 62, 3) := by decide +kernel
theorem dX6_delays_182 : decode mX6_delays.2.1 182 = .ok (.iload 5, 2) := by decide +kernel
theorem dX6_delays_184 : decode mX6_delays.2.1 184 = .ok (.iaload, 1) := by decide +kernel
theorem dX6_delays_185 : decode mX6_delays.2.1 185 = .ok (.ishl, 1) := by decide +kernel
theorem dX6_delays_186 : decode mX6_delays.2.1 186 = .ok (.goto 4, 3) := by decide +kernel
theorem dX6_delays_189 : decode mX6_delays.2.1 189 = .ok (.iconst 0, 1) := by decide +kernel
theorem dX6_delays_190 : decode mX6_delays.2.1 190 = .ok (.ior, 1) := by decide +kernel
theorem dX6_delays_191 : decode mX6_delays.2.1 191 = .ok (.istore 4, 2) := by decide +kernel
theorem dX6_delays_193 : decode mX6_delays.2.1 193 = .ok (.iinc 6 1, 3) := by decide +kernel
theorem dX6_delays_196 : decode mX6_delays.2.1 196 = .ok (.goto (-61), 3) := by decide +kernel
theorem dX6_delays_199 : decode mX6_delays.2.1 199 = .ok (.iinc 5 1, 3) := by decide +kernel
theorem dX6_delays_202 : decode mX6_delays.2.1 202 = .ok (.goto (-76), 3) := by decide +kernel
theorem dX6_delays_205 : decode mX6_delays.2.1 205 = .ok (.iload 4, 2) := by decide +kernel
theorem dX6_delays_207 : decode mX6_delays.2.1 207 = .ok (.ireturn, 1) := by decide +kernel
theorem dX6_width_0 : decode mX6_width.2.1 0 = .ok (.iload_n 1, 1) := by decide +kernel
theorem dX6_width_1 : decode mX6_width.2.1 1 = .ok (.iconst 0, 1) := by decide +kernel
theorem dX6_width_2 : decode mX6_width.2.1 2 = .ok (.bipush 26, 2) := by decide +kernel
theorem dX6_width_4 : decode mX6_width.2.1 4 = .ok (.invokestatic 129, 3) := by decide +kernel
theorem dX6_width_7 : decode mX6_width.2.1 7 = .ok (.ifCond .ne 6, 3) := by decide +kernel
theorem dX6_width_10 : decode mX6_width.2.1 10 = .ok (.bipush (-2), 2) := by decide +kernel
theorem dX6_width_12 : decode mX6_width.2.1 12 = .ok (.ireturn, 1) := by decide +kernel
theorem dX6_width_13 : decode mX6_width.2.1 13 = .ok (.iload_n 2, 1) := by decide +kernel
theorem dX6_width_14 : decode mX6_width.2.1 14 = .ok (.iload_n 1, 1) := by decide +kernel
theorem dX6_width_15 : decode mX6_width.2.1 15 = .ok (.ifCond .ne 7, 3) := by decide +kernel
theorem dX6_width_18 : decode mX6_width.2.1 18 = .ok (.iconst 0, 1) := by decide +kernel
theorem dX6_width_19 : decode mX6_width.2.1 19 = .ok (.goto 4, 3) := by decide +kernel
theorem dX6_width_22 : decode mX6_width.2.1 22 = .ok (.iconst 1, 1) := by decide +kernel
theorem dX6_width_23 : decode mX6_width.2.1 23 = .ok (.bipush 20, 2) := by decide +kernel
theorem dX6_width_25 : decode mX6_width.2.1 25 = .ok (.invokestatic 129, 3) := by decide +kernel
theorem dX6_width_28 : decode mX6_width.2.1 28 = .ok (.ifCond .ne 6, 3) := by decide +kernel
theorem dX6_width_31 : decode mX6_width.2.1 31 = .ok (.bipush (-3), 2) := by decide +kernel
theorem dX6_width_33 : decode mX6_width.2.1 33 = .ok (.ireturn, 1) := by decide +kernel
theorem dX6_width_34 : decode mX6_width.2.1 34 = .ok (.aload_n 0, 1) := by decide +kernel
theorem dX6_width_35 : decode mX6_width.2.1 35 = .ok (.getfield 71, 3) := by decide +kernel
theorem dX6_width_38 : decode mX6_width.2.1 38 = .ok (.iload_n 1, 1) := by decide +kernel
theorem dX6_width_39 : decode mX6_width.2.1 39 = .ok (.iaload, 1) := by decide +kernel
theorem dX6_width_40 : decode mX6_width.2.1 40 = .ok (.istore_n 3, 1) := by decide +kernel
theorem dX6_width_41 : decode mX6_width.2.1 41 = .ok (.aload_n 0, 1) := by decide +kernel
theorem dX6_width_42 : decode mX6_width.2.1 42 = .ok (.getfield 71, 3) := by decide +kernel
theorem dX6_width_45 : decode mX6_width.2.1 45 = .ok (.iload_n 1, 1) := by decide +kernel
theorem dX6_width_46 : decode mX6_width.2.1 46 = .ok (.iload_n 2, 1) := by decide +kernel
theorem dX6_width_47 : decode mX6_width.2.1 47 = .ok (.iastore, 1) := by decide +kernel
theorem dX6_width_48 : decode mX6_width.2.1 48 = .ok (.iload_n 3, 1) := by decide +kernel
theorem dX6_width_49 : decode mX6_width.2.1 49 = .ok (.ireturn, 1) := by decide +kernel
theorem dX6_sign_0 : decode mX6_sign.2.1 0 = .ok (.iload_n 1, 1) := by decide +kernel
theorem dX6_sign_1 : decode mX6_sign.2.1 1 = .ok (.iconst 0, 1) := by decide +kernel
theorem dX6_sign_2 : decode mX6_sign.2.1 2 = .ok (.bipush 26, 2) := by decide +kernel
theorem dX6_sign_4 : decode mX6_sign.2.1 4 = .ok (.invokestatic 129, 3) := by decide +kernel
theorem dX6_sign_7 : decode mX6_sign.2.1 7 = .ok (.ifCond .ne 6, 3) := by decide +kernel
theorem dX6_sign_10 : decode mX6_sign.2.1 10 = .ok (.bipush (-2), 2) := by decide +kernel
theorem dX6_sign_12 : decode mX6_sign.2.1 12 = .ok (.ireturn, 1) := by decide +kernel
theorem dX6_sign_13 : decode mX6_sign.2.1 13 = .ok (.aload_n 0, 1) := by decide +kernel
theorem dX6_sign_14 : decode mX6_sign.2.1 14 = .ok (.getfield 165, 3) := by decide +kernel
theorem dX6_sign_17 : decode mX6_sign.2.1 17 = .ok (.bipush 40, 2) := by decide +kernel
theorem dX6_sign_19 : decode mX6_sign.2.1 19 = .ok (.if_icmp .ne 6, 3) := by decide +kernel
theorem dX6_sign_22 : decode mX6_sign.2.1 22 = .ok (.bipush (-6), 2) := by decide +kernel
theorem dX6_sign_24 : decode mX6_sign.2.1 24 = .ok (.ireturn, 1) := by decide +kernel
theorem dX6_sign_25 : decode mX6_sign.2.1 25 = .ok (.aload_n 0, 1) := by decide +kernel
theorem dX6_sign_26 : decode mX6_sign.2.1 26 = .ok (.getfield 74, 3) := by decide +kernel
theorem dX6_sign_29 : decode mX6_sign.2.1 29 = .ok (.aload_n 0, 1) := by decide +kernel
theorem dX6_sign_30 : decode mX6_sign.2.1 30 = .ok (.getfield 165, 3) := by decide +kernel
theorem dX6_sign_33 : decode mX6_sign.2.1 33 = .ok (.iload_n 1, 1) := by decide +kernel
theorem dX6_sign_34 : decode mX6_sign.2.1 34 = .ok (.iastore, 1) := by decide +kernel
theorem dX6_sign_35 : decode mX6_sign.2.1 35 = .ok (.aload_n 0, 1) := by decide +kernel
theorem dX6_sign_36 : decode mX6_sign.2.1 36 = .ok (.dup, 1) := by decide +kernel
theorem dX6_sign_37 : decode mX6_sign.2.1 37 = .ok (.getfield 165, 3) := by decide +kernel
theorem dX6_sign_40 : decode mX6_sign.2.1 40 = .ok (.iconst 1, 1) := by decide +kernel
theorem dX6_sign_41 : decode mX6_sign.2.1 41 = .ok (.iadd, 1) := by decide +kernel
theorem dX6_sign_42 : decode mX6_sign.2.1 42 = .ok (.putfield 165, 3) := by decide +kernel
theorem dX6_sign_45 : decode mX6_sign.2.1 45 = .ok (.aload_n 0, 1) := by decide +kernel
theorem dX6_sign_46 : decode mX6_sign.2.1 46 = .ok (.getfield 165, 3) := by decide +kernel
theorem dX6_sign_49 : decode mX6_sign.2.1 49 = .ok (.ireturn, 1) := by decide +kernel
theorem dX6_wipe_0 : decode mX6_wipe.2.1 0 = .ok (.aload_n 0, 1) := by decide +kernel
theorem dX6_wipe_1 : decode mX6_wipe.2.1 1 = .ok (.getfield 165, 3) := by decide +kernel
theorem dX6_wipe_4 : decode mX6_wipe.2.1 4 = .ok (.istore_n 1, 1) := by decide +kernel
theorem dX6_wipe_5 : decode mX6_wipe.2.1 5 = .ok (.aload_n 0, 1) := by decide +kernel
theorem dX6_wipe_6 : decode mX6_wipe.2.1 6 = .ok (.iconst 0, 1) := by decide +kernel
theorem dX6_wipe_7 : decode mX6_wipe.2.1 7 = .ok (.putfield 165, 3) := by decide +kernel
theorem dX6_wipe_10 : decode mX6_wipe.2.1 10 = .ok (.iload_n 1, 1) := by decide +kernel
theorem dX6_wipe_11 : decode mX6_wipe.2.1 11 = .ok (.ireturn, 1) := by decide +kernel
theorem dX6_findWords_0 : decode mX6_findWords.2.1 0 = .ok (.aload_n 0, 1) := by decide +kernel
theorem dX6_findWords_1 : decode mX6_findWords.2.1 1 = .ok (.iconst 0, 1) := by decide +kernel
theorem dX6_findWords_2 : decode mX6_findWords.2.1 2 = .ok (.putfield 168, 3) := by decide +kernel
theorem dX6_findWords_5 : decode mX6_findWords.2.1 5 = .ok (.iconst 0, 1) := by decide +kernel
theorem dX6_findWords_6 : decode mX6_findWords.2.1 6 = .ok (.istore_n 1, 1) := by decide +kernel
theorem dX6_findWords_7 : decode mX6_findWords.2.1 7 = .ok (.iload_n 1, 1) := by decide +kernel
theorem dX6_findWords_8 : decode mX6_findWords.2.1 8 = .ok (.aload_n 0, 1) := by decide +kernel
theorem dX6_findWords_9 : decode mX6_findWords.2.1 9 = .ok (.getfield 165, 3) := by decide +kernel
theorem dX6_findWords_12 : decode mX6_findWords.2.1 12 = .ok (.if_icmp .ge 78, 3) := by decide +kernel
theorem dX6_findWords_15 : decode mX6_findWords.2.1 15 = .ok (.aload_n 0, 1) := by decide +kernel
theorem dX6_findWords_16 : decode mX6_findWords.2.1 16 = .ok (.getfield 74, 3) := by decide +kernel
theorem dX6_findWords_19 : decode mX6_findWords.2.1 19 = .ok (.iload_n 1, 1) := by decide +kernel
theorem dX6_findWords_20 : decode mX6_findWords.2.1 20 = .ok (.iaload, 1) := by decide +kernel
theorem dX6_findWords_21 : decode mX6_findWords.2.1 21 = .ok (.ifCond .le 63, 3) := by decide +kernel
theorem dX6_findWords_24 : decode mX6_findWords.2.1 24 = .ok (.iload_n 1, 1) := by decide +kernel
theorem dX6_findWords_25 : decode mX6_findWords.2.1 25 = .ok (.ifCond .eq 14, 3) := by decide +kernel
theorem dX6_findWords_28 : decode mX6_findWords.2.1 28 = .ok (.aload_n 0, 1) := by decide +kernel
theorem dX6_findWords_29 : decode mX6_findWords.2.1 29 = .ok (.getfield 74, 3) := by decide +kernel
theorem dX6_findWords_32 : decode mX6_findWords.2.1 32 = .ok (.iload_n 1, 1) := by decide +kernel
theorem dX6_findWords_33 : decode mX6_findWords.2.1 33 = .ok (.iconst 1, 1) := by decide +kernel
theorem dX6_findWords_34 : decode mX6_findWords.2.1 34 = .ok (.isub, 1) := by decide +kernel
theorem dX6_findWords_35 : decode mX6_findWords.2.1 35 = .ok (.iaload, 1) := by decide +kernel
theorem dX6_findWords_36 : decode mX6_findWords.2.1 36 = .ok (.ifCond .ne 23, 3) := by decide +kernel
theorem dX6_findWords_39 : decode mX6_findWords.2.1 39 = .ok (.aload_n 0, 1) := by decide +kernel
theorem dX6_findWords_40 : decode mX6_findWords.2.1 40 = .ok (.getfield 77, 3) := by decide +kernel
theorem dX6_findWords_43 : decode mX6_findWords.2.1 43 = .ok (.aload_n 0, 1) := by decide +kernel
theorem dX6_findWords_44 : decode mX6_findWords.2.1 44 = .ok (.getfield 168, 3) := by decide +kernel
theorem dX6_findWords_47 : decode mX6_findWords.2.1 47 = .ok (.iconst 0, 1) := by decide +kernel
theorem dX6_findWords_48 : decode mX6_findWords.2.1 48 = .ok (.iastore, 1) := by decide +kernel
theorem dX6_findWords_49 : decode mX6_findWords.2.1 49 = .ok (.aload_n 0, 1) := by decide +kernel
theorem dX6_findWords_50 : decode mX6_findWords.2.1 50 = .ok (.dup, 1) := by decide +kernel
theorem dX6_findWords_51 : decode mX6_findWords.2.1 51 = .ok (.getfield 168, 3) := by decide +kernel
theorem dX6_findWords_54 : decode mX6_findWords.2.1 54 = .ok (.iconst 1, 1) := by decide +kernel
theorem dX6_findWords_55 : decode mX6_findWords.2.1 55 = .ok (.iadd, 1) := by decide +kernel
theorem dX6_findWords_56 : decode mX6_findWords.2.1 56 = .ok (.putfield 168, 3) := by decide +kernel
theorem dX6_findWords_59 : decode mX6_findWords.2.1 59 = .ok (.aload_n 0, 1) := by decide +kernel
theorem dX6_findWords_60 : decode mX6_findWords.2.1 60 = .ok (.getfield 77, 3) := by decide +kernel
theorem dX6_findWords_63 : decode mX6_findWords.2.1 63 = .ok (.aload_n 0, 1) := by decide +kernel
theorem dX6_findWords_64 : decode mX6_findWords.2.1 64 = .ok (.getfield 168, 3) := by decide +kernel
theorem dX6_findWords_67 : decode mX6_findWords.2.1 67 = .ok (.iconst 1, 1) := by decide +kernel
theorem dX6_findWords_68 : decode mX6_findWords.2.1 68 = .ok (.isub, 1) := by decide +kernel
theorem dX6_findWords_69 : decode mX6_findWords.2.1 69 = .ok (.dup2, 1) := by decide +kernel
theorem dX6_findWords_70 : decode mX6_findWords.2.1 70 = .ok (.iaload, 1) := by decide +kernel
theorem dX6_findWords_71 : decode mX6_findWords.2.1 71 = .ok (.aload_n 0, 1) := by decide +kernel
theorem dX6_findWords_72 : decode mX6_findWords.2.1 72 = .ok (.getfield 71, 3) := by decide +kernel
theorem dX6_findWords_75 : decode mX6_findWords.2.1 75 = .ok (.aload_n 0, 1) := by decide +kernel
theorem dX6_findWords_76 : decode mX6_findWords.2.1 76 = .ok (.getfield 74, 3) := by decide +kernel
theorem dX6_findWords_79 : decode mX6_findWords.2.1 79 = .ok (.iload_n 1, 1) := by decide +kernel
theorem dX6_findWords_80 : decode mX6_findWords.2.1 80 = .ok (.iaload, 1) := by decide +kernel
theorem dX6_findWords_81 : decode mX6_findWords.2.1 81 = .ok (.iaload, 1) := by decide +kernel
theorem dX6_findWords_82 : decode mX6_findWords.2.1 82 = .ok (.iadd, 1) := by decide +kernel
theorem dX6_findWords_83 : decode mX6_findWords.2.1 83 = .ok (.iastore, 1) := by decide +kernel
theorem dX6_findWords_84 : decode mX6_findWords.2.1 84 = .ok (.iinc 1 1, 3) := by decide +kernel
theorem dX6_findWords_87 : decode mX6_findWords.2.1 87 = .ok (.goto (-80), 3) := by decide +kernel
theorem dX6_findWords_90 : decode mX6_findWords.2.1 90 = .ok (.return_, 1) := by decide +kernel
theorem dX6_wideOf_0 : decode mX6_wideOf.2.1 0 = .ok (.iload_n 2, 1) := by decide +kernel
theorem dX6_wideOf_1 : decode mX6_wideOf.2.1 1 = .ok (.iconst 1, 1) := by decide +kernel
theorem dX6_wideOf_2 : decode mX6_wideOf.2.1 2 = .ok (.isub, 1) := by decide +kernel
theorem dX6_wideOf_3 : decode mX6_wideOf.2.1 3 = .ok (.aload_n 0, 1) := by decide +kernel
theorem dX6_wideOf_4 : decode mX6_wideOf.2.1 4 = .ok (.getfield 71, 3) := by decide +kernel
theorem dX6_wideOf_7 : decode mX6_wideOf.2.1 7 = .ok (.iconst 0, 1) := by decide +kernel
theorem dX6_wideOf_8 : decode mX6_wideOf.2.1 8 = .ok (.iaload, 1) := by decide +kernel
theorem dX6_wideOf_9 : decode mX6_wideOf.2.1 9 = .ok (.imul, 1) := by decide +kernel
theorem dX6_wideOf_10 : decode mX6_wideOf.2.1 10 = .ok (.istore_n 3, 1) := by decide +kernel
theorem dX6_wideOf_11 : decode mX6_wideOf.2.1 11 = .ok (.iload_n 1, 1) := by decide +kernel
theorem dX6_wideOf_12 : decode mX6_wideOf.2.1 12 = .ok (.istore 4, 2) := by decide +kernel
theorem dX6_wideOf_14 : decode mX6_wideOf.2.1 14 = .ok (.iload 4, 2) := by decide +kernel
theorem dX6_wideOf_16 : decode mX6_wideOf.2.1 16 = .ok (.iload_n 1, 1) := by decide +kernel
theorem dX6_wideOf_17 : decode mX6_wideOf.2.1 17 = .ok (.iload_n 2, 1) := by decide +kernel
theorem dX6_wideOf_18 : decode mX6_wideOf.2.1 18 = .ok (.iadd, 1) := by decide +kernel
theorem dX6_wideOf_19 : decode mX6_wideOf.2.1 19 = .ok (.if_icmp .ge 19, 3) := by decide +kernel
theorem dX6_wideOf_22 : decode mX6_wideOf.2.1 22 = .ok (.iload_n 3, 1) := by decide +kernel
theorem dX6_wideOf_23 : decode mX6_wideOf.2.1 23 = .ok (.aload_n 0, 1) := by decide +kernel
theorem dX6_wideOf_24 : decode mX6_wideOf.2.1 24 = .ok (.getfield 77, 3) := by decide +kernel
theorem dX6_wideOf_27 : decode mX6_wideOf.2.1 27 = .ok (.iload 4, 2) := by decide +kernel
theorem dX6_wideOf_29 : decode mX6_wideOf.2.1 29 = .ok (.iaload, 1) := by decide +kernel
theorem dX6_wideOf_30 : decode mX6_wideOf.2.1 30 = .ok (.iadd, 1) := by decide +kernel
theorem dX6_wideOf_31 : decode mX6_wideOf.2.1 31 = .ok (.istore_n 3, 1) := by decide +kernel
theorem dX6_wideOf_32 : decode mX6_wideOf.2.1 32 = .ok (.iinc 4 1, 3) := by decide +kernel
theorem dX6_wideOf_35 : decode mX6_wideOf.2.1 35 = .ok (.goto (-21), 3) := by decide +kernel
theorem dX6_wideOf_38 : decode mX6_wideOf.2.1 38 = .ok (.iload_n 3, 1) := by decide +kernel
theorem dX6_wideOf_39 : decode mX6_wideOf.2.1 39 = .ok (.ireturn, 1) := by decide +kernel
theorem dX6_through_0 : decode mX6_through.2.1 0 = .ok (.iload 4, 2) := by decide +kernel
theorem dX6_through_2 : decode mX6_through.2.1 2 = .ok (.aload_n 0, 1) := by decide +kernel
theorem dX6_through_3 : decode mX6_through.2.1 3 = .ok (.iload_n 1, 1) := by decide +kernel
theorem dX6_through_4 : decode mX6_through.2.1 4 = .ok (.iload_n 2, 1) := by decide +kernel
theorem dX6_through_5 : decode mX6_through.2.1 5 = .ok (.invokevirtual 171, 3) := by decide +kernel
theorem dX6_through_8 : decode mX6_through.2.1 8 = .ok (.isub, 1) := by decide +kernel
theorem dX6_through_9 : decode mX6_through.2.1 9 = .ok (.istore 5, 2) := by decide +kernel
theorem dX6_through_11 : decode mX6_through.2.1 11 = .ok (.aload_n 0, 1) := by decide +kernel
theorem dX6_through_12 : decode mX6_through.2.1 12 = .ok (.getfield 80, 3) := by decide +kernel
theorem dX6_through_15 : decode mX6_through.2.1 15 = .ok (.bipush 21, 2) := by decide +kernel
theorem dX6_through_17 : decode mX6_through.2.1 17 = .ok (.iload_n 3, 1) := by decide +kernel
theorem dX6_through_18 : decode mX6_through.2.1 18 = .ok (.iconst 1, 1) := by decide +kernel
theorem dX6_through_19 : decode mX6_through.2.1 19 = .ok (.isub, 1) := by decide +kernel
theorem dX6_through_20 : decode mX6_through.2.1 20 = .ok (.imul, 1) := by decide +kernel
theorem dX6_through_21 : decode mX6_through.2.1 21 = .ok (.iload_n 1, 1) := by decide +kernel
theorem dX6_through_22 : decode mX6_through.2.1 22 = .ok (.iadd, 1) := by decide +kernel
theorem dX6_through_23 : decode mX6_through.2.1 23 = .ok (.iload_n 2, 1) := by decide +kernel
theorem dX6_through_24 : decode mX6_through.2.1 24 = .ok (.iadd, 1) := by decide +kernel
theorem dX6_through_25 : decode mX6_through.2.1 25 = .ok (.iaload, 1) := by decide +kernel
theorem dX6_through_26 : decode mX6_through.2.1 26 = .ok (.istore 6, 2) := by decide +kernel
theorem dX6_through_28 : decode mX6_through.2.1 28 = .ok (.iload 5, 2) := by decide +kernel
theorem dX6_through_30 : decode mX6_through.2.1 30 = .ok (.ifCond .lt 9, 3) := by decide +kernel
theorem dX6_through_33 : decode mX6_through.2.1 33 = .ok (.iload 6, 2) := by decide +kernel
theorem dX6_through_35 : decode mX6_through.2.1 35 = .ok (.iconst (-1), 1) := by decide +kernel
theorem dX6_through_36 : decode mX6_through.2.1 36 = .ok (.if_icmp .ne 7, 3) := by decide +kernel
theorem dX6_through_39 : decode mX6_through.2.1 39 = .ok (.iconst (-1), 1) := by decide +kernel
theorem dX6_through_40 : decode mX6_through.2.1 40 = .ok (.goto 11, 3) := by decide +kernel
theorem dX6_through_43 : decode mX6_through.2.1 43 = .ok (.iload 5, 2) := by decide +kernel
theorem dX6_through_45 : decode mX6_through.2.1 45 = .ok (.iload 5, 2) := by decide +kernel
theorem dX6_through_47 : decode mX6_through.2.1 47 = .ok (.imul, 1) := by decide +kernel
theorem dX6_through_48 : decode mX6_through.2.1 48 = .ok (.iload 6, 2) := by decide +kernel
theorem dX6_through_50 : decode mX6_through.2.1 50 = .ok (.iadd, 1) := by decide +kernel
theorem dX6_through_51 : decode mX6_through.2.1 51 = .ok (.ireturn, 1) := by decide +kernel
theorem dX6_broken_0 : decode mX6_broken.2.1 0 = .ok (.iload_n 1, 1) := by decide +kernel
theorem dX6_broken_1 : decode mX6_broken.2.1 1 = .ok (.iconst 1, 1) := by decide +kernel
theorem dX6_broken_2 : decode mX6_broken.2.1 2 = .ok (.sipush 400, 3) := by decide +kernel
theorem dX6_broken_5 : decode mX6_broken.2.1 5 = .ok (.invokestatic 129, 3) := by decide +kernel
theorem dX6_broken_8 : decode mX6_broken.2.1 8 = .ok (.ifCond .eq 13, 3) := by decide +kernel
theorem dX6_broken_11 : decode mX6_broken.2.1 11 = .ok (.iload_n 2, 1) := by decide +kernel
theorem dX6_broken_12 : decode mX6_broken.2.1 12 = .ok (.iconst 1, 1) := by decide +kernel
theorem dX6_broken_13 : decode mX6_broken.2.1 13 = .ok (.bipush 6, 2) := by decide +kernel
theorem dX6_broken_15 : decode mX6_broken.2.1 15 = .ok (.invokestatic 129, 3) := by decide +kernel
theorem dX6_broken_18 : decode mX6_broken.2.1 18 = .ok (.ifCond .ne 6, 3) := by decide +kernel
theorem dX6_broken_21 : decode mX6_broken.2.1 21 = .ok (.bipush (-3), 2) := by decide +kernel
theorem dX6_broken_23 : decode mX6_broken.2.1 23 = .ok (.ireturn, 1) := by decide +kernel
theorem dX6_broken_24 : decode mX6_broken.2.1 24 = .ok (.aload_n 0, 1) := by decide +kernel
theorem dX6_broken_25 : decode mX6_broken.2.1 25 = .ok (.invokevirtual 175, 3) := by decide +kernel
theorem dX6_broken_28 : decode mX6_broken.2.1 28 = .ok (.aload_n 0, 1) := by decide +kernel
theorem dX6_broken_29 : decode mX6_broken.2.1 29 = .ok (.getfield 168, 3) := by decide +kernel
theorem dX6_broken_32 : decode mX6_broken.2.1 32 = .ok (.ifCond .ne 6, 3) := by decide +kernel
theorem dX6_broken_35 : decode mX6_broken.2.1 35 = .ok (.bipush (-4), 2) := by decide +kernel
theorem dX6_broken_37 : decode mX6_broken.2.1 37 = .ok (.ireturn, 1) := by decide +kernel
theorem dX6_broken_38 : decode mX6_broken.2.1 38 = .ok (.iconst 0, 1) := by decide +kernel
theorem dX6_broken_39 : decode mX6_broken.2.1 39 = .ok (.istore_n 3, 1) := by decide +kernel
theorem dX6_broken_40 : decode mX6_broken.2.1 40 = .ok (.iload_n 3, 1) := by decide +kernel
theorem dX6_broken_41 : decode mX6_broken.2.1 41 = .ok (.iload_n 2, 1) := by decide +kernel
theorem dX6_broken_42 : decode mX6_broken.2.1 42 = .ok (.if_icmp .gt 125, 3) := by decide +kernel
theorem dX6_broken_45 : decode mX6_broken.2.1 45 = .ok (.aload_n 0, 1) := by decide +kernel
theorem dX6_broken_46 : decode mX6_broken.2.1 46 = .ok (.getfield 168, 3) := by decide +kernel
theorem dX6_broken_49 : decode mX6_broken.2.1 49 = .ok (.istore 4, 2) := by decide +kernel
theorem dX6_broken_51 : decode mX6_broken.2.1 51 = .ok (.iload 4, 2) := by decide +kernel
theorem dX6_broken_53 : decode mX6_broken.2.1 53 = .ok (.ifCond .lt 108, 3) := by decide +kernel
theorem dX6_broken_56 : decode mX6_broken.2.1 56 = .ok (.iload_n 3, 1) := by decide +kernel
theorem dX6_broken_57 : decode mX6_broken.2.1 57 = .ok (.ifCond .ne 16, 3) := by decide +kernel
theorem dX6_broken_60 : decode mX6_broken.2.1 60 = .ok (.iload 4, 2) := by decide +kernel
theorem dX6_broken_62 : decode mX6_broken.2.1 62 = .ok (.aload_n 0, 1) := by decide +kernel
theorem dX6_broken_63 : decode mX6_broken.2.1 63 = .ok (.getfield 168, 3) := by decide +kernel
theorem dX6_broken_66 : decode mX6_broken.2.1 66 = .ok (.if_icmp .ne 7, 3) := by decide +kernel
theorem dX6_broken_69 : decode mX6_broken.2.1 69 = .ok (.iconst 0, 1) := by decide +kernel
theorem dX6_broken_70 : decode mX6_broken.2.1 70 = .ok (.goto 4, 3) := by decide +kernel
theorem dX6_broken_73 : decode mX6_broken.2.1 73 = .ok (.iconst (-1), 1) := by decide +kernel
theorem dX6_broken_74 : decode mX6_broken.2.1 74 = .ok (.istore 5, 2) := by decide +kernel
theorem dX6_broken_76 : decode mX6_broken.2.1 76 = .ok (.iconst 1, 1) := by decide +kernel
theorem dX6_broken_77 : decode mX6_broken.2.1 77 = .ok (.istore 6, 2) := by decide +kernel
theorem dX6_broken_79 : decode mX6_broken.2.1 79 = .ok (.iload 6, 2) := by decide +kernel
theorem dX6_broken_81 : decode mX6_broken.2.1 81 = .ok (.aload_n 0, 1) := by decide +kernel
theorem dX6_broken_82 : decode mX6_broken.2.1 82 = .ok (.getfield 168, 3) := by decide +kernel
theorem dX6_broken_85 : decode mX6_broken.2.1 85 = .ok (.iload 4, 2) := by decide +kernel
theorem dX6_broken_87 : decode mX6_broken.2.1 87 = .ok (.isub, 1) := by decide +kernel
theorem dX6_broken_88 : decode mX6_broken.2.1 88 = .ok (.if_icmp .gt 53, 3) := by decide +kernel
theorem dX6_broken_91 : decode mX6_broken.2.1 91 = .ok (.iload_n 3, 1) := by decide +kernel
theorem dX6_broken_92 : decode mX6_broken.2.1 92 = .ok (.ifCond .le 49, 3) := by decide +kernel
theorem dX6_broken_95 : decode mX6_broken.2.1 95 = .ok (.aload_n 0, 1) := by decide +kernel
theorem dX6_broken_96 : decode mX6_broken.2.1 96 = .ok (.iload 4, 2) := by decide +kernel
theorem dX6_broken_98 : decode mX6_broken.2.1 98 = .ok (.iload 6, 2) := by decide +kernel
theorem dX6_broken_100 : decode mX6_broken.2.1 100 = .ok (.iload_n 3, 1) := by decide +kernel
theorem dX6_broken_101 : decode mX6_broken.2.1 101 = .ok (.iload_n 1, 1) := by decide +kernel
theorem dX6_broken_102 : decode mX6_broken.2.1 102 = .ok (.invokevirtual 178, 3) := by decide +kernel
theorem dX6_broken_105 : decode mX6_broken.2.1 105 = .ok (.istore 7, 2) := by decide +kernel
theorem dX6_broken_107 : decode mX6_broken.2.1 107 = .ok (.iload 7, 2) := by decide +kernel
theorem dX6_broken_109 : decode mX6_broken.2.1 109 = .ok (.iconst (-1), 1) := by decide +kernel
theorem dX6_broken_110 : decode mX6_broken.2.1 110 = .ok (.if_icmp .eq 21, 3) := by decide +kernel
theorem dX6_broken_113 : decode mX6_broken.2.1 113 = .ok (.iload 5, 2) := by decide +kernel
theorem dX6_broken_115 : decode mX6_broken.2.1 115 = .ok (.iconst (-1), 1) := by decide +kernel
theorem dX6_broken_116 : decode mX6_broken.2.1 116 = .ok (.if_icmp .eq 10, 3) := by decide +kernel
theorem dX6_broken_119 : decode mX6_broken.2.1 119 = .ok (.iload 7, 2) := by decide +kernel
theorem dX6_broken_121 : decode mX6_broken.2.1 121 = .ok (.iload 5, 2) := by decide +kernel
theorem dX6_broken_123 : decode mX6_broken.2.1 123 = .ok (.if_icmp .ge 8, 3) := by decide +kernel
theorem dX6_broken_126 : decode mX6_broken.2.1 126 = .ok (.iload 7, 2) := by decide +kernel
theorem dX6_broken_128 : decode mX6_broken.2.1 128 = .ok (.goto 5, 3) := by decide +kernel
theorem dX6_broken_131 : decode mX6_broken.2.1 131 = .ok (.iload 5, 2) := by decide +kernel
theorem dX6_broken_133 : decode mX6_broken.2.1 133 = .ok (.istore 5, 2) := by decide +kernel
theorem dX6_broken_135 : decode mX6_broken.2.1 135 = .ok (.iinc 6 1, 3) := by decide +kernel
theorem dX6_broken_138 : decode mX6_broken.2.1 138 = .ok (.goto (-59), 3) := by decide +kernel
theorem dX6_broken_141 : decode mX6_broken.2.1 141 = .ok (.aload_n 0, 1) := by decide +kernel
theorem dX6_broken_142 : decode mX6_broken.2.1 142 = .ok (.getfield 80, 3) := by decide +kernel
theorem dX6_broken_145 : decode mX6_broken.2.1 145 = .ok (.bipush 21, 2) := by decide +kernel
theorem dX6_broken_147 : decode mX6_broken.2.1 147 = .ok (.iload_n 3, 1) := by decide +kernel
theorem dX6_broken_148 : decode mX6_broken.2.1 148 = .ok (.imul, 1) := by decide +kernel
theorem dX6_broken_149 : decode mX6_broken.2.1 149 = .ok (.iload 4, 2) := by decide +kernel
theorem dX6_broken_151 : decode mX6_broken.2.1 151 = .ok (.iadd, 1) := by decide +kernel
theorem dX6_broken_152 : decode mX6_broken.2.1 152 = .ok (.iload 5, 2) := by decide +kernel
theorem dX6_broken_154 : decode mX6_broken.2.1 154 = .ok (.iastore, 1) := by decide +kernel
theorem dX6_broken_155 : decode mX6_broken.2.1 155 = .ok (.iinc 4 (-1), 3) := by decide +kernel
theorem dX6_broken_158 : decode mX6_broken.2.1 158 = .ok (.goto (-107), 3) := by decide +kernel
theorem dX6_broken_161 : decode mX6_broken.2.1 161 = .ok (.iinc 3 1, 3) := by decide +kernel
theorem dX6_broken_164 : decode mX6_broken.2.1 164 = .ok (.goto (-124), 3) := by decide +kernel
theorem dX6_broken_167 : decode mX6_broken.2.1 167 = .ok (.aload_n 0, 1) := by decide +kernel
theorem dX6_broken_168 : decode mX6_broken.2.1 168 = .ok (.iconst 0, 1) := by decide +kernel
theorem dX6_broken_169 : decode mX6_broken.2.1 169 = .ok (.putfield 182, 3) := by decide +kernel
theorem dX6_broken_172 : decode mX6_broken.2.1 172 = .ok (.iconst (-1), 1) := by decide +kernel
theorem dX6_broken_173 : decode mX6_broken.2.1 173 = .ok (.istore_n 3, 1) := by decide +kernel
theorem dX6_broken_174 : decode mX6_broken.2.1 174 = .ok (.iconst 1, 1) := by decide +kernel
theorem dX6_broken_175 : decode mX6_broken.2.1 175 = .ok (.istore 4, 2) := by decide +kernel
theorem dX6_broken_177 : decode mX6_broken.2.1 177 = .ok (.iload 4, 2) := by decide +kernel
theorem dX6_broken_179 : decode mX6_broken.2.1 179 = .ok (.iload_n 2, 1) := by decide +kernel
theorem dX6_broken_180 : decode mX6_broken.2.1 180 = .ok (.if_icmp .gt 47, 3) := by decide +kernel
theorem dX6_broken_183 : decode mX6_broken.2.1 183 = .ok (.aload_n 0, 1) := by decide +kernel
theorem dX6_broken_184 : decode mX6_broken.2.1 184 = .ok (.getfield 80, 3) := by decide +kernel
theorem dX6_broken_187 : decode mX6_broken.2.1 187 = .ok (.bipush 21, 2) := by decide +kernel
theorem dX6_broken_189 : decode mX6_broken.2.1 189 = .ok (.iload 4, 2) := by decide +kernel
theorem dX6_broken_191 : decode mX6_broken.2.1 191 = .ok (.imul, 1) := by decide +kernel
theorem dX6_broken_192 : decode mX6_broken.2.1 192 = .ok (.iaload, 1) := by decide +kernel
theorem dX6_broken_193 : decode mX6_broken.2.1 193 = .ok (.istore 5, 2) := by decide +kernel
theorem dX6_broken_195 : decode mX6_broken.2.1 195 = .ok (.iload 5, 2) := by decide +kernel
theorem dX6_broken_197 : decode mX6_broken.2.1 197 = .ok (.iconst (-1), 1) := by decide +kernel
theorem dX6_broken_198 : decode mX6_broken.2.1 198 = .ok (.if_icmp .eq 23, 3) := by decide +kernel
theorem dX6_broken_201 : decode mX6_broken.2.1 201 = .ok (.iload_n 3, 1) := by decide +kernel
theorem dX6_broken_202 : decode mX6_broken.2.1 202 = .ok (.iconst (-1), 1) := by decide +kernel
theorem dX6_broken_203 : decode mX6_broken.2.1 203 = .ok (.if_icmp .eq 9, 3) := by decide +kernel
theorem dX6_broken_206 : decode mX6_broken.2.1 206 = .ok (.iload 5, 2) := by decide +kernel
theorem dX6_broken_208 : decode mX6_broken.2.1 208 = .ok (.iload_n 3, 1) := by decide +kernel
theorem dX6_broken_209 : decode mX6_broken.2.1 209 = .ok (.if_icmp .ge 12, 3) := by decide +kernel
theorem dX6_broken_212 : decode mX6_broken.2.1 212 = .ok (.iload 5, 2) := by decide +kernel
theorem dX6_broken_214 : decode mX6_broken.2.1 214 = .ok (.istore_n 3, 1) := by decide +kernel
theorem dX6_broken_215 : decode mX6_broken.2.1 215 = .ok (.aload_n 0, 1) := by decide +kernel
theorem dX6_broken_216 : decode mX6_broken.2.1 216 = .ok (.iload 4, 2) := by decide +kernel
theorem dX6_broken_218 : decode mX6_broken.2.1 218 = .ok (.putfield 182, 3) := by decide +kernel
theorem dX6_broken_221 : decode mX6_broken.2.1 221 = .ok (.iinc 4 1, 3) := by decide +kernel
theorem dX6_broken_224 : decode mX6_broken.2.1 224 = .ok (.goto (-47), 3) := by decide +kernel
theorem dX6_broken_227 : decode mX6_broken.2.1 227 = .ok (.iconst 0, 1) := by decide +kernel
theorem dX6_broken_228 : decode mX6_broken.2.1 228 = .ok (.istore 4, 2) := by decide +kernel
theorem dX6_broken_230 : decode mX6_broken.2.1 230 = .ok (.iconst 0, 1) := by decide +kernel
theorem dX6_broken_231 : decode mX6_broken.2.1 231 = .ok (.istore 5, 2) := by decide +kernel
theorem dX6_broken_233 : decode mX6_broken.2.1 233 = .ok (.iload 5, 2) := by decide +kernel
theorem dX6_broken_235 : decode mX6_broken.2.1 235 = .ok (.aload_n 0, 1) := by decide +kernel
theorem dX6_broken_236 : decode mX6_broken.2.1 236 = .ok (.getfield 182, 3) := by decide +kernel
theorem dX6_broken_239 : decode mX6_broken.2.1 239 = .ok (.if_icmp .ge 71, 3) := by decide +kernel
theorem dX6_broken_242 : decode mX6_broken.2.1 242 = .ok (.iconst 1, 1) := by decide +kernel
theorem dX6_broken_243 : decode mX6_broken.2.1 243 = .ok (.istore 6, 2) := by decide +kernel
theorem dX6_broken_245 : decode mX6_broken.2.1 245 = .ok (.aload_n 0, 1) := by decide +kernel
theorem dX6_broken_246 : decode mX6_broken.2.1 246 = .ok (.iload 4, 2) := by decide +kernel
theorem dX6_broken_248 : decode mX6_broken.2.1 248 = .ok (.iload 6, 2) := by decide +kernel
theorem dX6_broken_250 : decode mX6_broken.2.1 250 = .ok (.aload_n 0, 1) := by decide +kernel
theorem dX6_broken_251 : decode mX6_broken.2.1 251 = .ok (.getfield 182, 3) := by decide +kernel
theorem dX6_broken_254 : decode mX6_broken.2.1 254 = .ok (.iload 5, 2) := by decide +kernel
theorem dX6_broken_256 : decode mX6_broken.2.1 256 = .ok (.isub, 1) := by decide +kernel
theorem dX6_broken_257 : decode mX6_broken.2.1 257 = .ok (.iload_n 1, 1) := by decide +kernel
theorem dX6_broken_258 : decode mX6_broken.2.1 258 = .ok (.invokevirtual 178, 3) := by decide +kernel
theorem dX6_broken_261 : decode mX6_broken.2.1 261 = .ok (.aload_n 0, 1) := by decide +kernel
theorem dX6_broken_262 : decode mX6_broken.2.1 262 = .ok (.getfield 80, 3) := by decide +kernel
theorem dX6_broken_265 : decode mX6_broken.2.1 265 = .ok (.bipush 21, 2) := by decide +kernel
theorem dX6_broken_267 : decode mX6_broken.2.1 267 = .ok (.aload_n 0, 1) := by decide +kernel
theorem dX6_broken_268 : decode mX6_broken.2.1 268 = .ok (.getfield 182, 3) := by decide +kernel
theorem dX6_broken_271 : decode mX6_broken.2.1 271 = .ok (.iload 5, 2) := by decide +kernel
theorem dX6_broken_273 : decode mX6_broken.2.1 273 = .ok (.isub, 1) := by decide +kernel
theorem dX6_broken_274 : decode mX6_broken.2.1 274 = .ok (.imul, 1) := by decide +kernel
theorem dX6_broken_275 : decode mX6_broken.2.1 275 = .ok (.iload 4, 2) := by decide +kernel
theorem dX6_broken_277 : decode mX6_broken.2.1 277 = .ok (.iadd, 1) := by decide +kernel
theorem dX6_broken_278 : decode mX6_broken.2.1 278 = .ok (.iaload, 1) := by decide +kernel
theorem dX6_broken_279 : decode mX6_broken.2.1 279 = .ok (.if_icmp .eq 9, 3) := by decide +kernel
theorem dX6_broken_282 : decode mX6_broken.2.1 282 = .ok (.iinc 6 1, 3) := by decide +kernel
theorem dX6_broken_285 : decode mX6_broken.2.1 285 = .ok (.goto (-40), 3) := by decide +kernel
theorem dX6_broken_288 : decode mX6_broken.2.1 288 = .ok (.aload_n 0, 1) := by decide +kernel
theorem dX6_broken_289 : decode mX6_broken.2.1 289 = .ok (.getfield 83, 3) := by decide +kernel
theorem dX6_broken_292 : decode mX6_broken.2.1 292 = .ok (.iload 5, 2) := by decide +kernel
theorem dX6_broken_294 : decode mX6_broken.2.1 294 = .ok (.iload 6, 2) := by decide +kernel
theorem dX6_broken_296 : decode mX6_broken.2.1 296 = .ok (.iastore, 1) := by decide +kernel
theorem dX6_broken_297 : decode mX6_broken.2.1 297 = .ok (.iload 4, 2) := by decide +kernel
theorem dX6_broken_299 : decode mX6_broken.2.1 299 = .ok (.iload 6, 2) := by decide +kernel
theorem dX6_broken_301 : decode mX6_broken.2.1 301 = .ok (.iadd, 1) := by decide +kernel
theorem dX6_broken_302 : decode mX6_broken.2.1 302 = .ok (.istore 4, 2) := by decide +kernel
theorem dX6_broken_304 : decode mX6_broken.2.1 304 = .ok (.iinc 5 1, 3) := by decide +kernel
theorem dX6_broken_307 : decode mX6_broken.2.1 307 = .ok (.goto (-74), 3) := by decide +kernel
theorem dX6_broken_310 : decode mX6_broken.2.1 310 = .ok (.iload_n 3, 1) := by decide +kernel
theorem dX6_broken_311 : decode mX6_broken.2.1 311 = .ok (.ireturn, 1) := by decide +kernel
theorem dX6_line_0 : decode mX6_line.2.1 0 = .ok (.iload_n 1, 1) := by decide +kernel
theorem dX6_line_1 : decode mX6_line.2.1 1 = .ok (.iconst 0, 1) := by decide +kernel
theorem dX6_line_2 : decode mX6_line.2.1 2 = .ok (.aload_n 0, 1) := by decide +kernel
theorem dX6_line_3 : decode mX6_line.2.1 3 = .ok (.getfield 182, 3) := by decide +kernel
theorem dX6_line_6 : decode mX6_line.2.1 6 = .ok (.iconst 1, 1) := by decide +kernel
theorem dX6_line_7 : decode mX6_line.2.1 7 = .ok (.isub, 1) := by decide +kernel
theorem dX6_line_8 : decode mX6_line.2.1 8 = .ok (.invokestatic 129, 3) := by decide +kernel
theorem dX6_line_11 : decode mX6_line.2.1 11 = .ok (.ifCond .eq 12, 3) := by decide +kernel
theorem dX6_line_14 : decode mX6_line.2.1 14 = .ok (.aload_n 0, 1) := by decide +kernel
theorem dX6_line_15 : decode mX6_line.2.1 15 = .ok (.getfield 83, 3) := by decide +kernel
theorem dX6_line_18 : decode mX6_line.2.1 18 = .ok (.iload_n 1, 1) := by decide +kernel
theorem dX6_line_19 : decode mX6_line.2.1 19 = .ok (.iaload, 1) := by decide +kernel
theorem dX6_line_20 : decode mX6_line.2.1 20 = .ok (.goto 5, 3) := by decide +kernel
theorem dX6_line_23 : decode mX6_line.2.1 23 = .ok (.bipush (-3), 2) := by decide +kernel
theorem dX6_line_25 : decode mX6_line.2.1 25 = .ok (.ireturn, 1) := by decide +kernel
theorem dX6_often_0 : decode mX6_often.2.1 0 = .ok (.iconst 0, 1) := by decide +kernel
theorem dX6_often_1 : decode mX6_often.2.1 1 = .ok (.istore_n 2, 1) := by decide +kernel
theorem dX6_often_2 : decode mX6_often.2.1 2 = .ok (.iconst 0, 1) := by decide +kernel
theorem dX6_often_3 : decode mX6_often.2.1 3 = .ok (.istore_n 3, 1) := by decide +kernel
theorem dX6_often_4 : decode mX6_often.2.1 4 = .ok (.iload_n 3, 1) := by decide +kernel
theorem dX6_often_5 : decode mX6_often.2.1 5 = .ok (.aload_n 0, 1) := by decide +kernel
theorem dX6_often_6 : decode mX6_often.2.1 6 = .ok (.getfield 165, 3) := by decide +kernel
theorem dX6_often_9 : decode mX6_often.2.1 9 = .ok (.if_icmp .ge 27, 3) := by decide +kernel
theorem dX6_often_12 : decode mX6_often.2.1 12 = .ok (.iload_n 2, 1) := by decide +kernel
theorem dX6_often_13 : decode mX6_often.2.1 13 = .ok (.aload_n 0, 1) := by decide +kernel
theorem dX6_often_14 : decode mX6_often.2.1 14 = .ok (.getfield 74, 3) := by decide +kernel
theorem dX6_often_17 : decode mX6_often.2.1 17 = .ok (.iload_n 3, 1) := by decide +kernel
theorem dX6_often_18 : decode mX6_often.2.1 18 = .ok (.iaload, 1) := by decide +kernel
theorem dX6_often_19 : decode mX6_often.2.1 19 = .ok (.iload_n 1, 1) := by decide +kernel
theorem dX6_often_20 : decode mX6_often.2.1 20 = .ok (.if_icmp .ne 7, 3) := by decide +kernel
theorem dX6_often_23 : decode mX6_often.2.1 23 = .ok (.iconst 1, 1) := by decide +kernel
theorem dX6_often_24 : decode mX6_often.2.1 24 = .ok (.goto 4, 3) := by decide +kernel
theorem dX6_often_27 : decode mX6_often.2.1 27 = .ok (.iconst 0, 1) := by decide +kernel
theorem dX6_often_28 : decode mX6_often.2.1 28 = .ok (.iadd, 1) := by decide +kernel
theorem dX6_often_29 : decode mX6_often.2.1 29 = .ok (.istore_n 2, 1) := by decide +kernel
theorem dX6_often_30 : decode mX6_often.2.1 30 = .ok (.iinc 3 1, 3) := by decide +kernel
theorem dX6_often_33 : decode mX6_often.2.1 33 = .ok (.goto (-29), 3) := by decide +kernel
theorem dX6_often_36 : decode mX6_often.2.1 36 = .ok (.iload_n 2, 1) := by decide +kernel
theorem dX6_often_37 : decode mX6_often.2.1 37 = .ok (.ireturn, 1) := by decide +kernel
theorem dX6_stamp_0 : decode mX6_stamp.2.1 0 = .ok (.iconst 0, 1) := by decide +kernel
theorem dX6_stamp_1 : decode mX6_stamp.2.1 1 = .ok (.istore_n 1, 1) := by decide +kernel
theorem dX6_stamp_2 : decode mX6_stamp.2.1 2 = .ok (.iconst 0, 1) := by decide +kernel
theorem dX6_stamp_3 : decode mX6_stamp.2.1 3 = .ok (.istore_n 2, 1) := by decide +kernel
theorem dX6_stamp_4 : decode mX6_stamp.2.1 4 = .ok (.iconst 1, 1) := by decide +kernel
theorem dX6_stamp_5 : decode mX6_stamp.2.1 5 = .ok (.istore_n 3, 1) := by decide +kernel
theorem dX6_stamp_6 : decode mX6_stamp.2.1 6 = .ok (.iload_n 3, 1) := by decide +kernel
theorem dX6_stamp_7 : decode mX6_stamp.2.1 7 = .ok (.bipush 27, 2) := by decide +kernel
theorem dX6_stamp_9 : decode mX6_stamp.2.1 9 = .ok (.if_icmp .ge 52, 3) := by decide +kernel
theorem dX6_stamp_12 : decode mX6_stamp.2.1 12 = .ok (.aload_n 0, 1) := by decide +kernel
theorem dX6_stamp_13 : decode mX6_stamp.2.1 13 = .ok (.iload_n 3, 1) := by decide +kernel
theorem dX6_stamp_14 : decode mX6_stamp.2.1 14 = .ok (.invokevirtual 185, 3) := by decide +kernel
theorem dX6_stamp_17 : decode mX6_stamp.2.1 17 = .ok (.istore 4, 2) := by decide +kernel
theorem dX6_stamp_19 : decode mX6_stamp.2.1 19 = .ok (.iload_n 1, 1) := by decide +kernel
theorem dX6_stamp_20 : decode mX6_stamp.2.1 20 = .ok (.iload 4, 2) := by decide +kernel
theorem dX6_stamp_22 : decode mX6_stamp.2.1 22 = .ok (.iadd, 1) := by decide +kernel
theorem dX6_stamp_23 : decode mX6_stamp.2.1 23 = .ok (.istore_n 1, 1) := by decide +kernel
theorem dX6_stamp_24 : decode mX6_stamp.2.1 24 = .ok (.iload_n 2, 1) := by decide +kernel
theorem dX6_stamp_25 : decode mX6_stamp.2.1 25 = .ok (.ifCond .ne 24, 3) := by decide +kernel
theorem dX6_stamp_28 : decode mX6_stamp.2.1 28 = .ok (.iload 4, 2) := by decide +kernel
theorem dX6_stamp_30 : decode mX6_stamp.2.1 30 = .ok (.ifCond .le 23, 3) := by decide +kernel
theorem dX6_stamp_33 : decode mX6_stamp.2.1 33 = .ok (.aload_n 0, 1) := by decide +kernel
theorem dX6_stamp_34 : decode mX6_stamp.2.1 34 = .ok (.getfield 86, 3) := by decide +kernel
theorem dX6_stamp_37 : decode mX6_stamp.2.1 37 = .ok (.iload_n 3, 1) := by decide +kernel
theorem dX6_stamp_38 : decode mX6_stamp.2.1 38 = .ok (.iaload, 1) := by decide +kernel
theorem dX6_stamp_39 : decode mX6_stamp.2.1 39 = .ok (.iload 4, 2) := by decide +kernel
theorem dX6_stamp_41 : decode mX6_stamp.2.1 41 = .ok (.iadd, 1) := by decide +kernel
theorem dX6_stamp_42 : decode mX6_stamp.2.1 42 = .ok (.aload_n 0, 1) := by decide +kernel
theorem dX6_stamp_43 : decode mX6_stamp.2.1 43 = .ok (.getfield 89, 3) := by decide +kernel
theorem dX6_stamp_46 : decode mX6_stamp.2.1 46 = .ok (.if_icmp .le 7, 3) := by decide +kernel
theorem dX6_stamp_49 : decode mX6_stamp.2.1 49 = .ok (.iconst 1, 1) := by decide +kernel
theorem dX6_stamp_50 : decode mX6_stamp.2.1 50 = .ok (.goto 4, 3) := by decide +kernel
theorem dX6_stamp_53 : decode mX6_stamp.2.1 53 = .ok (.iconst 0, 1) := by decide +kernel
theorem dX6_stamp_54 : decode mX6_stamp.2.1 54 = .ok (.istore_n 2, 1) := by decide +kernel
theorem dX6_stamp_55 : decode mX6_stamp.2.1 55 = .ok (.iinc 3 1, 3) := by decide +kernel
theorem dX6_stamp_58 : decode mX6_stamp.2.1 58 = .ok (.goto (-52), 3) := by decide +kernel
theorem dX6_stamp_61 : decode mX6_stamp.2.1 61 = .ok (.iload_n 1, 1) := by decide +kernel
theorem dX6_stamp_62 : decode mX6_stamp.2.1 62 = .ok (.ifCond .ne 6, 3) := by decide +kernel
theorem dX6_stamp_65 : decode mX6_stamp.2.1 65 = .ok (.bipush (-4), 2) := by decide +kernel
theorem dX6_stamp_67 : decode mX6_stamp.2.1 67 = .ok (.ireturn, 1) := by decide +kernel
theorem dX6_stamp_68 : decode mX6_stamp.2.1 68 = .ok (.iload_n 2, 1) := by decide +kernel
theorem dX6_stamp_69 : decode mX6_stamp.2.1 69 = .ok (.ifCond .eq 6, 3) := by decide +kernel
theorem dX6_stamp_72 : decode mX6_stamp.2.1 72 = .ok (.bipush (-5), 2) := by decide +kernel
theorem dX6_stamp_74 : decode mX6_stamp.2.1 74 = .ok (.ireturn, 1) := by decide +kernel
theorem dX6_stamp_75 : decode mX6_stamp.2.1 75 = .ok (.iconst 1, 1) := by decide +kernel
theorem dX6_stamp_76 : decode mX6_stamp.2.1 76 = .ok (.istore_n 3, 1) := by decide +kernel
theorem dX6_stamp_77 : decode mX6_stamp.2.1 77 = .ok (.iload_n 3, 1) := by decide +kernel
theorem dX6_stamp_78 : decode mX6_stamp.2.1 78 = .ok (.bipush 27, 2) := by decide +kernel
theorem dX6_stamp_80 : decode mX6_stamp.2.1 80 = .ok (.if_icmp .ge 23, 3) := by decide +kernel
theorem dX6_stamp_83 : decode mX6_stamp.2.1 83 = .ok (.aload_n 0, 1) := by decide +kernel
theorem dX6_stamp_84 : decode mX6_stamp.2.1 84 = .ok (.getfield 86, 3) := by decide +kernel
theorem dX6_stamp_87 : decode mX6_stamp.2.1 87 = .ok (.iload_n 3, 1) := by decide +kernel
theorem dX6_stamp_88 : decode mX6_stamp.2.1 88 = .ok (.dup2, 1) := by decide +kernel
theorem dX6_stamp_89 : decode mX6_stamp.2.1 89 = .ok (.iaload, 1) := by decide +kernel
theorem dX6_stamp_90 : decode mX6_stamp.2.1 90 = .ok (.aload_n 0, 1) := by decide +kernel
theorem dX6_stamp_91 : decode mX6_stamp.2.1 91 = .ok (.iload_n 3, 1) := by decide +kernel
theorem dX6_stamp_92 : decode mX6_stamp.2.1 92 = .ok (.invokevirtual 185, 3) := by decide +kernel
theorem dX6_stamp_95 : decode mX6_stamp.2.1 95 = .ok (.iadd, 1) := by decide +kernel
theorem dX6_stamp_96 : decode mX6_stamp.2.1 96 = .ok (.iastore, 1) := by decide +kernel
theorem dX6_stamp_97 : decode mX6_stamp.2.1 97 = .ok (.iinc 3 1, 3) := by decide +kernel
theorem dX6_stamp_100 : decode mX6_stamp.2.1 100 = .ok (.goto (-23), 3) := by decide +kernel
theorem dX6_stamp_103 : decode mX6_stamp.2.1 103 = .ok (.iload_n 1, 1) := by decide +kernel
theorem dX6_stamp_104 : decode mX6_stamp.2.1 104 = .ok (.ireturn, 1) := by decide +kernel
theorem dX6_sharpen_0 : decode mX6_sharpen.2.1 0 = .ok (.iload_n 1, 1) := by decide +kernel
theorem dX6_sharpen_1 : decode mX6_sharpen.2.1 1 = .ok (.iconst 1, 1) := by decide +kernel
theorem dX6_sharpen_2 : decode mX6_sharpen.2.1 2 = .ok (.bipush 26, 2) := by decide +kernel
theorem dX6_sharpen_4 : decode mX6_sharpen.2.1 4 = .ok (.invokestatic 129, 3) := by decide +kernel
theorem dX6_sharpen_7 : decode mX6_sharpen.2.1 7 = .ok (.ifCond .ne 6, 3) := by decide +kernel
theorem dX6_sharpen_10 : decode mX6_sharpen.2.1 10 = .ok (.bipush (-2), 2) := by decide +kernel
theorem dX6_sharpen_12 : decode mX6_sharpen.2.1 12 = .ok (.ireturn, 1) := by decide +kernel
theorem dX6_sharpen_13 : decode mX6_sharpen.2.1 13 = .ok (.aload_n 0, 1) := by decide +kernel
theorem dX6_sharpen_14 : decode mX6_sharpen.2.1 14 = .ok (.getfield 86, 3) := by decide +kernel
theorem dX6_sharpen_17 : decode mX6_sharpen.2.1 17 = .ok (.iload_n 1, 1) := by decide +kernel
theorem dX6_sharpen_18 : decode mX6_sharpen.2.1 18 = .ok (.iaload, 1) := by decide +kernel
theorem dX6_sharpen_19 : decode mX6_sharpen.2.1 19 = .ok (.istore_n 2, 1) := by decide +kernel
theorem dX6_sharpen_20 : decode mX6_sharpen.2.1 20 = .ok (.aload_n 0, 1) := by decide +kernel
theorem dX6_sharpen_21 : decode mX6_sharpen.2.1 21 = .ok (.getfield 86, 3) := by decide +kernel
theorem dX6_sharpen_24 : decode mX6_sharpen.2.1 24 = .ok (.iload_n 1, 1) := by decide +kernel
theorem dX6_sharpen_25 : decode mX6_sharpen.2.1 25 = .ok (.iconst 0, 1) := by decide +kernel
theorem dX6_sharpen_26 : decode mX6_sharpen.2.1 26 = .ok (.iastore, 1) := by decide +kernel
theorem dX6_sharpen_27 : decode mX6_sharpen.2.1 27 = .ok (.iload_n 2, 1) := by decide +kernel
theorem dX6_sharpen_28 : decode mX6_sharpen.2.1 28 = .ok (.ireturn, 1) := by decide +kernel
theorem dX6_last_0 : decode mX6_last.2.1 0 = .ok (.iload_n 1, 1) := by decide +kernel
theorem dX6_last_1 : decode mX6_last.2.1 1 = .ok (.iconst 1, 1) := by decide +kernel
theorem dX6_last_2 : decode mX6_last.2.1 2 = .ok (.sipush 1000, 3) := by decide +kernel
theorem dX6_last_5 : decode mX6_last.2.1 5 = .ok (.invokestatic 129, 3) := by decide +kernel
theorem dX6_last_8 : decode mX6_last.2.1 8 = .ok (.ifCond .ne 6, 3) := by decide +kernel
theorem dX6_last_11 : decode mX6_last.2.1 11 = .ok (.bipush (-3), 2) := by decide +kernel
theorem dX6_last_13 : decode mX6_last.2.1 13 = .ok (.ireturn, 1) := by decide +kernel
theorem dX6_last_14 : decode mX6_last.2.1 14 = .ok (.aload_n 0, 1) := by decide +kernel
theorem dX6_last_15 : decode mX6_last.2.1 15 = .ok (.getfield 89, 3) := by decide +kernel
theorem dX6_last_18 : decode mX6_last.2.1 18 = .ok (.istore_n 2, 1) := by decide +kernel
theorem dX6_last_19 : decode mX6_last.2.1 19 = .ok (.aload_n 0, 1) := by decide +kernel
theorem dX6_last_20 : decode mX6_last.2.1 20 = .ok (.iload_n 1, 1) := by decide +kernel
theorem dX6_last_21 : decode mX6_last.2.1 21 = .ok (.putfield 89, 3) := by decide +kernel
theorem dX6_last_24 : decode mX6_last.2.1 24 = .ok (.iload_n 2, 1) := by decide +kernel
theorem dX6_last_25 : decode mX6_last.2.1 25 = .ok (.ireturn, 1) := by decide +kernel
theorem dX6_isSkin_0 : decode mX6_isSkin.2.1 0 = .ok (.iload_n 1, 1) := by decide +kernel
theorem dX6_isSkin_1 : decode mX6_isSkin.2.1 1 = .ok (.iconst 0, 1) := by decide +kernel
theorem dX6_isSkin_2 : decode mX6_isSkin.2.1 2 = .ok (.aload_n 0, 1) := by decide +kernel
theorem dX6_isSkin_3 : decode mX6_isSkin.2.1 3 = .ok (.getfield 188, 3) := by decide +kernel
theorem dX6_isSkin_6 : decode mX6_isSkin.2.1 6 = .ok (.iconst 1, 1) := by decide +kernel
theorem dX6_isSkin_7 : decode mX6_isSkin.2.1 7 = .ok (.isub, 1) := by decide +kernel
theorem dX6_isSkin_8 : decode mX6_isSkin.2.1 8 = .ok (.invokestatic 129, 3) := by decide +kernel
theorem dX6_isSkin_11 : decode mX6_isSkin.2.1 11 = .ok (.ireturn, 1) := by decide +kernel
theorem dX6_isSpot_0 : decode mX6_isSpot.2.1 0 = .ok (.iload_n 2, 1) := by decide +kernel
theorem dX6_isSpot_1 : decode mX6_isSpot.2.1 1 = .ok (.iconst 0, 1) := by decide +kernel
theorem dX6_isSpot_2 : decode mX6_isSpot.2.1 2 = .ok (.aload_n 0, 1) := by decide +kernel
theorem dX6_isSpot_3 : decode mX6_isSpot.2.1 3 = .ok (.getfield 93, 3) := by decide +kernel
theorem dX6_isSpot_6 : decode mX6_isSpot.2.1 6 = .ok (.iload_n 1, 1) := by decide +kernel
theorem dX6_isSpot_7 : decode mX6_isSpot.2.1 7 = .ok (.iaload, 1) := by decide +kernel
theorem dX6_isSpot_8 : decode mX6_isSpot.2.1 8 = .ok (.iconst 1, 1) := by decide +kernel
theorem dX6_isSpot_9 : decode mX6_isSpot.2.1 9 = .ok (.isub, 1) := by decide +kernel
theorem dX6_isSpot_10 : decode mX6_isSpot.2.1 10 = .ok (.invokestatic 129, 3) := by decide +kernel
theorem dX6_isSpot_13 : decode mX6_isSpot.2.1 13 = .ok (.ifCond .eq 23, 3) := by decide +kernel
theorem dX6_isSpot_16 : decode mX6_isSpot.2.1 16 = .ok (.iload_n 3, 1) := by decide +kernel
theorem dX6_isSpot_17 : decode mX6_isSpot.2.1 17 = .ok (.iconst 0, 1) := by decide +kernel
theorem dX6_isSpot_18 : decode mX6_isSpot.2.1 18 = .ok (.aload_n 0, 1) := by decide +kernel
theorem dX6_isSpot_19 : decode mX6_isSpot.2.1 19 = .ok (.getfield 96, 3) := by decide +kernel
theorem dX6_isSpot_22 : decode mX6_isSpot.2.1 22 = .ok (.iload_n 1, 1) := by decide +kernel
theorem dX6_isSpot_23 : decode mX6_isSpot.2.1 23 = .ok (.iaload, 1) := by decide +kernel
theorem dX6_isSpot_24 : decode mX6_isSpot.2.1 24 = .ok (.iconst 1, 1) := by decide +kernel
theorem dX6_isSpot_25 : decode mX6_isSpot.2.1 25 = .ok (.isub, 1) := by decide +kernel
theorem dX6_isSpot_26 : decode mX6_isSpot.2.1 26 = .ok (.invokestatic 129, 3) := by decide +kernel
theorem dX6_isSpot_29 : decode mX6_isSpot.2.1 29 = .ok (.ifCond .eq 7, 3) := by decide +kernel
theorem dX6_isSpot_32 : decode mX6_isSpot.2.1 32 = .ok (.iconst 1, 1) := by decide +kernel
theorem dX6_isSpot_33 : decode mX6_isSpot.2.1 33 = .ok (.goto 4, 3) := by decide +kernel
theorem dX6_isSpot_36 : decode mX6_isSpot.2.1 36 = .ok (.iconst 0, 1) := by decide +kernel
theorem dX6_isSpot_37 : decode mX6_isSpot.2.1 37 = .ok (.ireturn, 1) := by decide +kernel
theorem dX6_skin_0 : decode mX6_skin.2.1 0 = .ok (.iload_n 1, 1) := by decide +kernel
theorem dX6_skin_1 : decode mX6_skin.2.1 1 = .ok (.iconst 1, 1) := by decide +kernel
theorem dX6_skin_2 : decode mX6_skin.2.1 2 = .ok (.bipush 12, 2) := by decide +kernel
theorem dX6_skin_4 : decode mX6_skin.2.1 4 = .ok (.invokestatic 129, 3) := by decide +kernel
theorem dX6_skin_7 : decode mX6_skin.2.1 7 = .ok (.ifCond .eq 23, 3) := by decide +kernel
theorem dX6_skin_10 : decode mX6_skin.2.1 10 = .ok (.iload_n 2, 1) := by decide +kernel
theorem dX6_skin_11 : decode mX6_skin.2.1 11 = .ok (.iconst 1, 1) := by decide +kernel
theorem dX6_skin_12 : decode mX6_skin.2.1 12 = .ok (.bipush 12, 2) := by decide +kernel
theorem dX6_skin_14 : decode mX6_skin.2.1 14 = .ok (.invokestatic 129, 3) := by decide +kernel
theorem dX6_skin_17 : decode mX6_skin.2.1 17 = .ok (.ifCond .eq 13, 3) := by decide +kernel
theorem dX6_skin_20 : decode mX6_skin.2.1 20 = .ok (.iload_n 3, 1) := by decide +kernel
theorem dX6_skin_21 : decode mX6_skin.2.1 21 = .ok (.iconst 0, 1) := by decide +kernel
theorem dX6_skin_22 : decode mX6_skin.2.1 22 = .ok (.bipush 9, 2) := by decide +kernel
theorem dX6_skin_24 : decode mX6_skin.2.1 24 = .ok (.invokestatic 129, 3) := by decide +kernel
theorem dX6_skin_27 : decode mX6_skin.2.1 27 = .ok (.ifCond .ne 6, 3) := by decide +kernel
theorem dX6_skin_30 : decode mX6_skin.2.1 30 = .ok (.bipush (-3), 2) := by decide +kernel
theorem dX6_skin_32 : decode mX6_skin.2.1 32 = .ok (.ireturn, 1) := by decide +kernel
theorem dX6_skin_33 : decode mX6_skin.2.1 33 = .ok (.aload_n 0, 1) := by decide +kernel
theorem dX6_skin_34 : decode mX6_skin.2.1 34 = .ok (.getfield 188, 3) := by decide +kernel
theorem dX6_skin_37 : decode mX6_skin.2.1 37 = .ok (.bipush 6, 2) := by decide +kernel
theorem dX6_skin_39 : decode mX6_skin.2.1 39 = .ok (.if_icmp .ne 6, 3) := by decide +kernel
theorem dX6_skin_42 : decode mX6_skin.2.1 42 = .ok (.bipush (-6), 2) := by decide +kernel
theorem dX6_skin_44 : decode mX6_skin.2.1 44 = .ok (.ireturn, 1) := by decide +kernel
theorem dX6_skin_45 : decode mX6_skin.2.1 45 = .ok (.aload_n 0, 1) := by decide +kernel
theorem dX6_skin_46 : decode mX6_skin.2.1 46 = .ok (.getfield 93, 3) := by decide +kernel
theorem dX6_skin_49 : decode mX6_skin.2.1 49 = .ok (.aload_n 0, 1) := by decide +kernel
theorem dX6_skin_50 : decode mX6_skin.2.1 50 = .ok (.getfield 188, 3) := by decide +kernel
theorem dX6_skin_53 : decode mX6_skin.2.1 53 = .ok (.iload_n 1, 1) := by decide +kernel
theorem dX6_skin_54 : decode mX6_skin.2.1 54 = .ok (.iastore, 1) := by decide +kernel
theorem dX6_skin_55 : decode mX6_skin.2.1 55 = .ok (.aload_n 0, 1) := by decide +kernel
theorem dX6_skin_56 : decode mX6_skin.2.1 56 = .ok (.getfield 96, 3) := by decide +kernel
theorem dX6_skin_59 : decode mX6_skin.2.1 59 = .ok (.aload_n 0, 1) := by decide +kernel
theorem dX6_skin_60 : decode mX6_skin.2.1 60 = .ok (.getfield 188, 3) := by decide +kernel
theorem dX6_skin_63 : decode mX6_skin.2.1 63 = .ok (.iload_n 2, 1) := by decide +kernel
theorem dX6_skin_64 : decode mX6_skin.2.1 64 = .ok (.iastore, 1) := by decide +kernel
theorem dX6_skin_65 : decode mX6_skin.2.1 65 = .ok (.aload_n 0, 1) := by decide +kernel
theorem dX6_skin_66 : decode mX6_skin.2.1 66 = .ok (.getfield 99, 3) := by decide +kernel
theorem dX6_skin_69 : decode mX6_skin.2.1 69 = .ok (.aload_n 0, 1) := by decide +kernel
theorem dX6_skin_70 : decode mX6_skin.2.1 70 = .ok (.getfield 188, 3) := by decide +kernel
theorem dX6_skin_73 : decode mX6_skin.2.1 73 = .ok (.iload_n 3, 1) := by decide +kernel
theorem dX6_skin_74 : decode mX6_skin.2.1 74 = .ok (.iastore, 1) := by decide +kernel
theorem dX6_skin_75 : decode mX6_skin.2.1 75 = .ok (.aload_n 0, 1) := by decide +kernel
theorem dX6_skin_76 : decode mX6_skin.2.1 76 = .ok (.dup, 1) := by decide +kernel
theorem dX6_skin_77 : decode mX6_skin.2.1 77 = .ok (.getfield 188, 3) := by decide +kernel
theorem dX6_skin_80 : decode mX6_skin.2.1 80 = .ok (.iconst 1, 1) := by decide +kernel
theorem dX6_skin_81 : decode mX6_skin.2.1 81 = .ok (.iadd, 1) := by decide +kernel
theorem dX6_skin_82 : decode mX6_skin.2.1 82 = .ok (.putfield 188, 3) := by decide +kernel
theorem dX6_skin_85 : decode mX6_skin.2.1 85 = .ok (.aload_n 0, 1) := by decide +kernel
theorem dX6_skin_86 : decode mX6_skin.2.1 86 = .ok (.getfield 188, 3) := by decide +kernel
theorem dX6_skin_89 : decode mX6_skin.2.1 89 = .ok (.iconst 1, 1) := by decide +kernel
theorem dX6_skin_90 : decode mX6_skin.2.1 90 = .ok (.isub, 1) := by decide +kernel
theorem dX6_skin_91 : decode mX6_skin.2.1 91 = .ok (.ireturn, 1) := by decide +kernel
theorem dX6_flaw_0 : decode mX6_flaw.2.1 0 = .ok (.aload_n 0, 1) := by decide +kernel
theorem dX6_flaw_1 : decode mX6_flaw.2.1 1 = .ok (.iload_n 1, 1) := by decide +kernel
theorem dX6_flaw_2 : decode mX6_flaw.2.1 2 = .ok (.invokevirtual 191, 3) := by decide +kernel
theorem dX6_flaw_5 : decode mX6_flaw.2.1 5 = .ok (.ifCond .ne 6, 3) := by decide +kernel
theorem dX6_flaw_8 : decode mX6_flaw.2.1 8 = .ok (.bipush (-2), 2) := by decide +kernel
theorem dX6_flaw_10 : decode mX6_flaw.2.1 10 = .ok (.ireturn, 1) := by decide +kernel
theorem dX6_flaw_11 : decode mX6_flaw.2.1 11 = .ok (.aload_n 0, 1) := by decide +kernel
theorem dX6_flaw_12 : decode mX6_flaw.2.1 12 = .ok (.iload_n 1, 1) := by decide +kernel
theorem dX6_flaw_13 : decode mX6_flaw.2.1 13 = .ok (.iload_n 2, 1) := by decide +kernel
theorem dX6_flaw_14 : decode mX6_flaw.2.1 14 = .ok (.iload_n 3, 1) := by decide +kernel
theorem dX6_flaw_15 : decode mX6_flaw.2.1 15 = .ok (.invokevirtual 194, 3) := by decide +kernel
theorem dX6_flaw_18 : decode mX6_flaw.2.1 18 = .ok (.ifCond .ne 6, 3) := by decide +kernel
theorem dX6_flaw_21 : decode mX6_flaw.2.1 21 = .ok (.bipush (-3), 2) := by decide +kernel
theorem dX6_flaw_23 : decode mX6_flaw.2.1 23 = .ok (.ireturn, 1) := by decide +kernel
theorem dX6_flaw_24 : decode mX6_flaw.2.1 24 = .ok (.sipush 144, 3) := by decide +kernel
theorem dX6_flaw_27 : decode mX6_flaw.2.1 27 = .ok (.iload_n 1, 1) := by decide +kernel
theorem dX6_flaw_28 : decode mX6_flaw.2.1 28 = .ok (.imul, 1) := by decide +kernel
theorem dX6_flaw_29 : decode mX6_flaw.2.1 29 = .ok (.bipush 12, 2) := by decide +kernel
theorem dX6_flaw_31 : decode mX6_flaw.2.1 31 = .ok (.iload_n 3, 1) := by decide +kernel
theorem dX6_flaw_32 : decode mX6_flaw.2.1 32 = .ok (.imul, 1) := by decide +kernel
theorem dX6_flaw_33 : decode mX6_flaw.2.1 33 = .ok (.iadd, 1) := by decide +kernel
theorem dX6_flaw_34 : decode mX6_flaw.2.1 34 = .ok (.iload_n 2, 1) := by decide +kernel
theorem dX6_flaw_35 : decode mX6_flaw.2.1 35 = .ok (.iadd, 1) := by decide +kernel
theorem dX6_flaw_36 : decode mX6_flaw.2.1 36 = .ok (.istore 4, 2) := by decide +kernel
theorem dX6_flaw_38 : decode mX6_flaw.2.1 38 = .ok (.aload_n 0, 1) := by decide +kernel
theorem dX6_flaw_39 : decode mX6_flaw.2.1 39 = .ok (.getfield 102, 3) := by decide +kernel
theorem dX6_flaw_42 : decode mX6_flaw.2.1 42 = .ok (.iload 4, 2) := by decide +kernel
theorem dX6_flaw_44 : decode mX6_flaw.2.1 44 = .ok (.iaload, 1) := by decide +kernel
theorem dX6_flaw_45 : decode mX6_flaw.2.1 45 = .ok (.ifCond .eq 6, 3) := by decide +kernel
theorem dX6_flaw_48 : decode mX6_flaw.2.1 48 = .ok (.bipush (-4), 2) := by decide +kernel
theorem dX6_flaw_50 : decode mX6_flaw.2.1 50 = .ok (.ireturn, 1) := by decide +kernel
theorem dX6_flaw_51 : decode mX6_flaw.2.1 51 = .ok (.aload_n 0, 1) := by decide +kernel
theorem dX6_flaw_52 : decode mX6_flaw.2.1 52 = .ok (.getfield 102, 3) := by decide +kernel
theorem dX6_flaw_55 : decode mX6_flaw.2.1 55 = .ok (.iload 4, 2) := by decide +kernel
theorem dX6_flaw_57 : decode mX6_flaw.2.1 57 = .ok (.iconst 1, 1) := by decide +kernel
theorem dX6_flaw_58 : decode mX6_flaw.2.1 58 = .ok (.iastore, 1) := by decide +kernel
theorem dX6_flaw_59 : decode mX6_flaw.2.1 59 = .ok (.iconst 1, 1) := by decide +kernel
theorem dX6_flaw_60 : decode mX6_flaw.2.1 60 = .ok (.ireturn, 1) := by decide +kernel
theorem dX6_fits_0 : decode mX6_fits.2.1 0 = .ok (.iload_n 2, 1) := by decide +kernel
theorem dX6_fits_1 : decode mX6_fits.2.1 1 = .ok (.iload 4, 2) := by decide +kernel
theorem dX6_fits_3 : decode mX6_fits.2.1 3 = .ok (.iadd, 1) := by decide +kernel
theorem dX6_fits_4 : decode mX6_fits.2.1 4 = .ok (.aload_n 0, 1) := by decide +kernel
theorem dX6_fits_5 : decode mX6_fits.2.1 5 = .ok (.getfield 93, 3) := by decide +kernel
theorem dX6_fits_8 : decode mX6_fits.2.1 8 = .ok (.iload_n 1, 1) := by decide +kernel
theorem dX6_fits_9 : decode mX6_fits.2.1 9 = .ok (.iaload, 1) := by decide +kernel
theorem dX6_fits_10 : decode mX6_fits.2.1 10 = .ok (.if_icmp .gt 20, 3) := by decide +kernel
theorem dX6_fits_13 : decode mX6_fits.2.1 13 = .ok (.iload_n 3, 1) := by decide +kernel
theorem dX6_fits_14 : decode mX6_fits.2.1 14 = .ok (.iload 5, 2) := by decide +kernel
theorem dX6_fits_16 : decode mX6_fits.2.1 16 = .ok (.iadd, 1) := by decide +kernel
theorem dX6_fits_17 : decode mX6_fits.2.1 17 = .ok (.aload_n 0, 1) := by decide +kernel
theorem dX6_fits_18 : decode mX6_fits.2.1 18 = .ok (.getfield 96, 3) := by decide +kernel
theorem dX6_fits_21 : decode mX6_fits.2.1 21 = .ok (.iload_n 1, 1) := by decide +kernel
theorem dX6_fits_22 : decode mX6_fits.2.1 22 = .ok (.iaload, 1) := by decide +kernel
theorem dX6_fits_23 : decode mX6_fits.2.1 23 = .ok (.if_icmp .gt 7, 3) := by decide +kernel
theorem dX6_fits_26 : decode mX6_fits.2.1 26 = .ok (.iconst 1, 1) := by decide +kernel
theorem dX6_fits_27 : decode mX6_fits.2.1 27 = .ok (.goto 4, 3) := by decide +kernel
theorem dX6_fits_30 : decode mX6_fits.2.1 30 = .ok (.iconst 0, 1) := by decide +kernel
theorem dX6_fits_31 : decode mX6_fits.2.1 31 = .ok (.istore 6, 2) := by decide +kernel
theorem dX6_fits_33 : decode mX6_fits.2.1 33 = .ok (.iload_n 3, 1) := by decide +kernel
theorem dX6_fits_34 : decode mX6_fits.2.1 34 = .ok (.istore 7, 2) := by decide +kernel
theorem dX6_fits_36 : decode mX6_fits.2.1 36 = .ok (.iload 7, 2) := by decide +kernel
theorem dX6_fits_38 : decode mX6_fits.2.1 38 = .ok (.iload_n 3, 1) := by decide +kernel
theorem dX6_fits_39 : decode mX6_fits.2.1 39 = .ok (.iload 5, 2) := by decide +kernel
theorem dX6_fits_41 : decode mX6_fits.2.1 41 = .ok (.iadd, 1) := by decide +kernel
theorem dX6_fits_42 : decode mX6_fits.2.1 42 = .ok (.if_icmp .ge 66, 3) := by decide +kernel
theorem dX6_fits_45 : decode mX6_fits.2.1 45 = .ok (.iload 6, 2) := by decide +kernel
theorem dX6_fits_47 : decode mX6_fits.2.1 47 = .ok (.ifCond .eq 61, 3) := by decide +kernel
theorem dX6_fits_50 : decode mX6_fits.2.1 50 = .ok (.iload_n 2, 1) := by decide +kernel
theorem dX6_fits_51 : decode mX6_fits.2.1 51 = .ok (.istore 8, 2) := by decide +kernel
theorem dX6_fits_53 : decode mX6_fits.2.1 53 = .ok (.iload 8, 2) := by decide +kernel
theorem dX6_fits_55 : decode mX6_fits.2.1 55 = .ok (.iload_n 2, 1) := by decide +kernel
theorem dX6_fits_56 : decode mX6_fits.2.1 56 = .ok (.iload 4, 2) := by decide +kernel
theorem dX6_fits_58 : decode mX6_fits.2.1 58 = .ok (.iadd, 1) := by decide +kernel
theorem dX6_fits_59 : decode mX6_fits.2.1 59 = .ok (.if_icmp .ge 43, 3) := by decide +kernel
theorem dX6_fits_62 : decode mX6_fits.2.1 62 = .ok (.iload 6, 2) := by decide +kernel
theorem dX6_fits_64 : decode mX6_fits.2.1 64 = .ok (.ifCond .eq 38, 3) := by decide +kernel
theorem dX6_fits_67 : decode mX6_fits.2.1 67 = .ok (.aload_n 0, 1) := by decide +kernel
theorem dX6_fits_68 : decode mX6_fits.2.1 68 = .ok (.getfield 102, 3) := by decide +kernel
theorem dX6_fits_71 : decode mX6_fits.2.1 71 = .ok (.sipush 144, 3) := by decide +kernel
theorem dX6_fits_74 : decode mX6_fits.2.1 74 = .ok (.iload_n 1, 1) := by decide +kernel
theorem dX6_fits_75 : decode mX6_fits.2.1 75 = .ok (.imul, 1) := by decide +kernel
theorem dX6_fits_76 : decode mX6_fits.2.1 76 = .ok (.bipush 12, 2) := by decide +kernel
theorem dX6_fits_78 : decode mX6_fits.2.1 78 = .ok (.iload 7, 2) := by decide +kernel
theorem dX6_fits_80 : decode mX6_fits.2.1 80 = .ok (.imul, 1) := by decide +kernel
theorem dX6_fits_81 : decode mX6_fits.2.1 81 = .ok (.iadd, 1) := by decide +kernel
theorem dX6_fits_82 : decode mX6_fits.2.1 82 = .ok (.iload 8, 2) := by decide +kernel
theorem dX6_fits_84 : decode mX6_fits.2.1 84 = .ok (.iadd, 1) := by decide +kernel
theorem dX6_fits_85 : decode mX6_fits.2.1 85 = .ok (.iaload, 1) := by decide +kernel
theorem dX6_fits_86 : decode mX6_fits.2.1 86 = .ok (.ifCond .ne 7, 3) := by decide +kernel
theorem dX6_fits_89 : decode mX6_fits.2.1 89 = .ok (.iconst 1, 1) := by decide +kernel
theorem dX6_fits_90 : decode mX6_fits.2.1 90 = .ok (.goto 4, 3) := by decide +kernel
theorem dX6_fits_93 : decode mX6_fits.2.1 93 = .ok (.iconst 0, 1) := by decide +kernel
theorem dX6_fits_94 : decode mX6_fits.2.1 94 = .ok (.istore 6, 2) := by decide +kernel
theorem dX6_fits_96 : decode mX6_fits.2.1 96 = .ok (.iinc 8 1, 3) := by decide +kernel
theorem dX6_fits_99 : decode mX6_fits.2.1 99 = .ok (.goto (-46), 3) := by decide +kernel
theorem dX6_fits_102 : decode mX6_fits.2.1 102 = .ok (.iinc 7 1, 3) := by decide +kernel
theorem dX6_fits_105 : decode mX6_fits.2.1 105 = .ok (.goto (-69), 3) := by decide +kernel
theorem dX6_fits_108 : decode mX6_fits.2.1 108 = .ok (.iload 6, 2) := by decide +kernel
theorem dX6_fits_110 : decode mX6_fits.2.1 110 = .ok (.ireturn, 1) := by decide +kernel
theorem dX6_take_0 : decode mX6_take.2.1 0 = .ok (.iload_n 3, 1) := by decide +kernel
theorem dX6_take_1 : decode mX6_take.2.1 1 = .ok (.istore 7, 2) := by decide +kernel
theorem dX6_take_3 : decode mX6_take.2.1 3 = .ok (.iload 7, 2) := by decide +kernel
theorem dX6_take_5 : decode mX6_take.2.1 5 = .ok (.iload_n 3, 1) := by decide +kernel
theorem dX6_take_6 : decode mX6_take.2.1 6 = .ok (.iload 5, 2) := by decide +kernel
theorem dX6_take_8 : decode mX6_take.2.1 8 = .ok (.iadd, 1) := by decide +kernel
theorem dX6_take_9 : decode mX6_take.2.1 9 = .ok (.if_icmp .ge 54, 3) := by decide +kernel
theorem dX6_take_12 : decode mX6_take.2.1 12 = .ok (.iload_n 2, 1) := by decide +kernel
theorem dX6_take_13 : decode mX6_take.2.1 13 = .ok (.istore 8, 2) := by decide +kernel
theorem dX6_take_15 : decode mX6_take.2.1 15 = .ok (.iload 8, 2) := by decide +kernel
theorem dX6_take_17 : decode mX6_take.2.1 17 = .ok (.iload_n 2, 1) := by decide +kernel
theorem dX6_take_18 : decode mX6_take.2.1 18 = .ok (.iload 4, 2) := by decide +kernel
theorem dX6_take_20 : decode mX6_take.2.1 20 = .ok (.iadd, 1) := by decide +kernel
theorem dX6_take_21 : decode mX6_take.2.1 21 = .ok (.if_icmp .ge 36, 3) := by decide +kernel
theorem dX6_take_24 : decode mX6_take.2.1 24 = .ok (.aload_n 0, 1) := by decide +kernel
theorem dX6_take_25 : decode mX6_take.2.1 25 = .ok (.getfield 102, 3) := by decide +kernel
theorem dX6_take_28 : decode mX6_take.2.1 28 = .ok (.sipush 144, 3) := by decide +kernel
theorem dX6_take_31 : decode mX6_take.2.1 31 = .ok (.iload_n 1, 1) := by decide +kernel
theorem dX6_take_32 : decode mX6_take.2.1 32 = .ok (.imul, 1) := by decide +kernel
theorem dX6_take_33 : decode mX6_take.2.1 33 = .ok (.bipush 12, 2) := by decide +kernel
theorem dX6_take_35 : decode mX6_take.2.1 35 = .ok (.iload 7, 2) := by decide +kernel
theorem dX6_take_37 : decode mX6_take.2.1 37 = .ok (.imul, 1) := by decide +kernel
theorem dX6_take_38 : decode mX6_take.2.1 38 = .ok (.iadd, 1) := by decide +kernel
theorem dX6_take_39 : decode mX6_take.2.1 39 = .ok (.iload 8, 2) := by decide +kernel
theorem dX6_take_41 : decode mX6_take.2.1 41 = .ok (.iadd, 1) := by decide +kernel
theorem dX6_take_42 : decode mX6_take.2.1 42 = .ok (.iconst 2, 1) := by decide +kernel
theorem dX6_take_43 : decode mX6_take.2.1 43 = .ok (.aload_n 0, 1) := by decide +kernel
theorem dX6_take_44 : decode mX6_take.2.1 44 = .ok (.getfield 105, 3) := by decide +kernel
theorem dX6_take_47 : decode mX6_take.2.1 47 = .ok (.iload_n 1, 1) := by decide +kernel
theorem dX6_take_48 : decode mX6_take.2.1 48 = .ok (.iaload, 1) := by decide +kernel
theorem dX6_take_49 : decode mX6_take.2.1 49 = .ok (.iadd, 1) := by decide +kernel
theorem dX6_take_50 : decode mX6_take.2.1 50 = .ok (.iastore, 1) := by decide +kernel
theorem dX6_take_51 : decode mX6_take.2.1 51 = .ok (.iinc 8 1, 3) := by decide +kernel
theorem dX6_take_54 : decode mX6_take.2.1 54 = .ok (.goto (-39), 3) := by decide +kernel
theorem dX6_take_57 : decode mX6_take.2.1 57 = .ok (.iinc 7 1, 3) := by decide +kernel
theorem dX6_take_60 : decode mX6_take.2.1 60 = .ok (.goto (-57), 3) := by decide +kernel
theorem dX6_take_63 : decode mX6_take.2.1 63 = .ok (.aload_n 0, 1) := by decide +kernel
theorem dX6_take_64 : decode mX6_take.2.1 64 = .ok (.getfield 105, 3) := by decide +kernel
theorem dX6_take_67 : decode mX6_take.2.1 67 = .ok (.iload_n 1, 1) := by decide +kernel
theorem dX6_take_68 : decode mX6_take.2.1 68 = .ok (.dup2, 1) := by decide +kernel
theorem dX6_take_69 : decode mX6_take.2.1 69 = .ok (.iaload, 1) := by decide +kernel
theorem dX6_take_70 : decode mX6_take.2.1 70 = .ok (.iconst 1, 1) := by decide +kernel
theorem dX6_take_71 : decode mX6_take.2.1 71 = .ok (.iadd, 1) := by decide +kernel
theorem dX6_take_72 : decode mX6_take.2.1 72 = .ok (.iastore, 1) := by decide +kernel
theorem dX6_take_73 : decode mX6_take.2.1 73 = .ok (.iload_n 2, 1) := by decide +kernel
theorem dX6_take_74 : decode mX6_take.2.1 74 = .ok (.bipush 100, 2) := by decide +kernel
theorem dX6_take_76 : decode mX6_take.2.1 76 = .ok (.iload_n 3, 1) := by decide +kernel
theorem dX6_take_77 : decode mX6_take.2.1 77 = .ok (.imul, 1) := by decide +kernel
theorem dX6_take_78 : decode mX6_take.2.1 78 = .ok (.iadd, 1) := by decide +kernel
theorem dX6_take_79 : decode mX6_take.2.1 79 = .ok (.iload 6, 2) := by decide +kernel
theorem dX6_take_81 : decode mX6_take.2.1 81 = .ok (.ifCond .eq 9, 3) := by decide +kernel
theorem dX6_take_84 : decode mX6_take.2.1 84 = .ok (.sipush 10000, 3) := by decide +kernel
theorem dX6_take_87 : decode mX6_take.2.1 87 = .ok (.goto 4, 3) := by decide +kernel
theorem dX6_take_90 : decode mX6_take.2.1 90 = .ok (.iconst 0, 1) := by decide +kernel
theorem dX6_take_91 : decode mX6_take.2.1 91 = .ok (.iadd, 1) := by decide +kernel
theorem dX6_take_92 : decode mX6_take.2.1 92 = .ok (.ireturn, 1) := by decide +kernel
theorem dX6_cutOf_0 : decode mX6_cutOf.2.1 0 = .ok (.iconst 0, 1) := by decide +kernel
theorem dX6_cutOf_1 : decode mX6_cutOf.2.1 1 = .ok (.istore 4, 2) := by decide +kernel
theorem dX6_cutOf_3 : decode mX6_cutOf.2.1 3 = .ok (.iload 4, 2) := by decide +kernel
theorem dX6_cutOf_5 : decode mX6_cutOf.2.1 5 = .ok (.aload_n 0, 1) := by decide +kernel
theorem dX6_cutOf_6 : decode mX6_cutOf.2.1 6 = .ok (.getfield 96, 3) := by decide +kernel
theorem dX6_cutOf_9 : decode mX6_cutOf.2.1 9 = .ok (.iload_n 1, 1) := by decide +kernel
theorem dX6_cutOf_10 : decode mX6_cutOf.2.1 10 = .ok (.iaload, 1) := by decide +kernel
theorem dX6_cutOf_11 : decode mX6_cutOf.2.1 11 = .ok (.if_icmp .ge 83, 3) := by decide +kernel
theorem dX6_cutOf_14 : decode mX6_cutOf.2.1 14 = .ok (.iconst 0, 1) := by decide +kernel
theorem dX6_cutOf_15 : decode mX6_cutOf.2.1 15 = .ok (.istore 5, 2) := by decide +kernel
theorem dX6_cutOf_17 : decode mX6_cutOf.2.1 17 = .ok (.iload 5, 2) := by decide +kernel
theorem dX6_cutOf_19 : decode mX6_cutOf.2.1 19 = .ok (.aload_n 0, 1) := by decide +kernel
theorem dX6_cutOf_20 : decode mX6_cutOf.2.1 20 = .ok (.getfield 93, 3) := by decide +kernel
theorem dX6_cutOf_23 : decode mX6_cutOf.2.1 23 = .ok (.iload_n 1, 1) := by decide +kernel
theorem dX6_cutOf_24 : decode mX6_cutOf.2.1 24 = .ok (.iaload, 1) := by decide +kernel
theorem dX6_cutOf_25 : decode mX6_cutOf.2.1 25 = .ok (.if_icmp .ge 63, 3) := by decide +kernel
theorem dX6_cutOf_28 : decode mX6_cutOf.2.1 28 = .ok (.aload_n 0, 1) := by decide +kernel
theorem dX6_cutOf_29 : decode mX6_cutOf.2.1 29 = .ok (.iload_n 1, 1) := by decide +kernel
theorem dX6_cutOf_30 : decode mX6_cutOf.2.1 30 = .ok (.iload 5, 2) := by decide +kernel
theorem dX6_cutOf_32 : decode mX6_cutOf.2.1 32 = .ok (.iload 4, 2) := by decide +kernel
theorem dX6_cutOf_34 : decode mX6_cutOf.2.1 34 = .ok (.iload_n 2, 1) := by decide +kernel
theorem dX6_cutOf_35 : decode mX6_cutOf.2.1 35 = .ok (.iload_n 3, 1) := by decide +kernel
theorem dX6_cutOf_36 : decode mX6_cutOf.2.1 36 = .ok (.invokevirtual 197, 3) := by decide +kernel
theorem dX6_cutOf_39 : decode mX6_cutOf.2.1 39 = .ok (.ifCond .eq 16, 3) := by decide +kernel
theorem dX6_cutOf_42 : decode mX6_cutOf.2.1 42 = .ok (.aload_n 0, 1) := by decide +kernel
theorem dX6_cutOf_43 : decode mX6_cutOf.2.1 43 = .ok (.iload_n 1, 1) := by decide +kernel
theorem dX6_cutOf_44 : decode mX6_cutOf.2.1 44 = .ok (.iload 5, 2) := by decide +kernel
theorem dX6_cutOf_46 : decode mX6_cutOf.2.1 46 = .ok (.iload 4, 2) := by decide +kernel
theorem dX6_cutOf_48 : decode mX6_cutOf.2.1 48 = .ok (.iload_n 2, 1) := by decide +kernel
theorem dX6_cutOf_49 : decode mX6_cutOf.2.1 49 = .ok (.iload_n 3, 1) := by decide +kernel
theorem dX6_cutOf_50 : decode mX6_cutOf.2.1 50 = .ok (.iconst 0, 1) := by decide +kernel
theorem dX6_cutOf_51 : decode mX6_cutOf.2.1 51 = .ok (.invokevirtual 201, 3) := by decide +kernel
theorem dX6_cutOf_54 : decode mX6_cutOf.2.1 54 = .ok (.ireturn, 1) := by decide +kernel
theorem dX6_cutOf_55 : decode mX6_cutOf.2.1 55 = .ok (.aload_n 0, 1) := by decide +kernel
theorem dX6_cutOf_56 : decode mX6_cutOf.2.1 56 = .ok (.iload_n 1, 1) := by decide +kernel
theorem dX6_cutOf_57 : decode mX6_cutOf.2.1 57 = .ok (.iload 5, 2) := by decide +kernel
theorem dX6_cutOf_59 : decode mX6_cutOf.2.1 59 = .ok (.iload 4, 2) := by decide +kernel
theorem dX6_cutOf_61 : decode mX6_cutOf.2.1 61 = .ok (.iload_n 3, 1) := by decide +kernel
theorem dX6_cutOf_62 : decode mX6_cutOf.2.1 62 = .ok (.iload_n 2, 1) := by decide +kernel
theorem dX6_cutOf_63 : decode mX6_cutOf.2.1 63 = .ok (.invokevirtual 197, 3) := by decide +kernel
theorem dX6_cutOf_66 : decode mX6_cutOf.2.1 66 = .ok (.ifCond .eq 16, 3) := by decide +kernel
theorem dX6_cutOf_69 : decode mX6_cutOf.2.1 69 = .ok (.aload_n 0, 1) := by decide +kernel
theorem dX6_cutOf_70 : decode mX6_cutOf.2.1 70 = .ok (.iload_n 1, 1) := by decide +kernel
theorem dX6_cutOf_71 : decode mX6_cutOf.2.1 71 = .ok (.iload 5, 2) := by decide +kernel
theorem dX6_cutOf_73 : decode mX6_cutOf.2.1 73 = .ok (.iload 4, 2) := by decide +kernel
theorem dX6_cutOf_75 : decode mX6_cutOf.2.1 75 = .ok (.iload_n 3, 1) := by decide +kernel
theorem dX6_cutOf_76 : decode mX6_cutOf.2.1 76 = .ok (.iload_n 2, 1) := by decide +kernel
theorem dX6_cutOf_77 : decode mX6_cutOf.2.1 77 = .ok (.iconst 1, 1) := by decide +kernel
theorem dX6_cutOf_78 : decode mX6_cutOf.2.1 78 = .ok (.invokevirtual 201, 3) := by decide +kernel
theorem dX6_cutOf_81 : decode mX6_cutOf.2.1 81 = .ok (.ireturn, 1) := by decide +kernel
theorem dX6_cutOf_82 : decode mX6_cutOf.2.1 82 = .ok (.iinc 5 1, 3) := by decide +kernel
theorem dX6_cutOf_85 : decode mX6_cutOf.2.1 85 = .ok (.goto (-68), 3) := by decide +kernel
theorem dX6_cutOf_88 : decode mX6_cutOf.2.1 88 = .ok (.iinc 4 1, 3) := by decide +kernel
theorem dX6_cutOf_91 : decode mX6_cutOf.2.1 91 = .ok (.goto (-88), 3) := by decide +kernel
theorem dX6_cutOf_94 : decode mX6_cutOf.2.1 94 = .ok (.iconst (-1), 1) := by decide +kernel
theorem dX6_cutOf_95 : decode mX6_cutOf.2.1 95 = .ok (.ireturn, 1) := by decide +kernel
theorem dX6_cut_0 : decode mX6_cut.2.1 0 = .ok (.aload_n 0, 1) := by decide +kernel
theorem dX6_cut_1 : decode mX6_cut.2.1 1 = .ok (.iload_n 1, 1) := by decide +kernel
theorem dX6_cut_2 : decode mX6_cut.2.1 2 = .ok (.invokevirtual 191, 3) := by decide +kernel
theorem dX6_cut_5 : decode mX6_cut.2.1 5 = .ok (.ifCond .ne 6, 3) := by decide +kernel
theorem dX6_cut_8 : decode mX6_cut.2.1 8 = .ok (.bipush (-2), 2) := by decide +kernel
theorem dX6_cut_10 : decode mX6_cut.2.1 10 = .ok (.ireturn, 1) := by decide +kernel
theorem dX6_cut_11 : decode mX6_cut.2.1 11 = .ok (.iload_n 2, 1) := by decide +kernel
theorem dX6_cut_12 : decode mX6_cut.2.1 12 = .ok (.iconst 1, 1) := by decide +kernel
theorem dX6_cut_13 : decode mX6_cut.2.1 13 = .ok (.bipush 12, 2) := by decide +kernel
theorem dX6_cut_15 : decode mX6_cut.2.1 15 = .ok (.invokestatic 129, 3) := by decide +kernel
theorem dX6_cut_18 : decode mX6_cut.2.1 18 = .ok (.ifCond .eq 13, 3) := by decide +kernel
theorem dX6_cut_21 : decode mX6_cut.2.1 21 = .ok (.iload_n 3, 1) := by decide +kernel
theorem dX6_cut_22 : decode mX6_cut.2.1 22 = .ok (.iconst 1, 1) := by decide +kernel
theorem dX6_cut_23 : decode mX6_cut.2.1 23 = .ok (.bipush 12, 2) := by decide +kernel
theorem dX6_cut_25 : decode mX6_cut.2.1 25 = .ok (.invokestatic 129, 3) := by decide +kernel
theorem dX6_cut_28 : decode mX6_cut.2.1 28 = .ok (.ifCond .ne 6, 3) := by decide +kernel
theorem dX6_cut_31 : decode mX6_cut.2.1 31 = .ok (.bipush (-3), 2) := by decide +kernel
theorem dX6_cut_33 : decode mX6_cut.2.1 33 = .ok (.ireturn, 1) := by decide +kernel
theorem dX6_cut_34 : decode mX6_cut.2.1 34 = .ok (.aload_n 0, 1) := by decide +kernel
theorem dX6_cut_35 : decode mX6_cut.2.1 35 = .ok (.iload_n 1, 1) := by decide +kernel
theorem dX6_cut_36 : decode mX6_cut.2.1 36 = .ok (.iload_n 2, 1) := by decide +kernel
theorem dX6_cut_37 : decode mX6_cut.2.1 37 = .ok (.iload_n 3, 1) := by decide +kernel
theorem dX6_cut_38 : decode mX6_cut.2.1 38 = .ok (.invokevirtual 205, 3) := by decide +kernel
theorem dX6_cut_41 : decode mX6_cut.2.1 41 = .ok (.istore 4, 2) := by decide +kernel
theorem dX6_cut_43 : decode mX6_cut.2.1 43 = .ok (.iload 4, 2) := by decide +kernel
theorem dX6_cut_45 : decode mX6_cut.2.1 45 = .ok (.iconst (-1), 1) := by decide +kernel
theorem dX6_cut_46 : decode mX6_cut.2.1 46 = .ok (.if_icmp .ne 8, 3) := by decide +kernel
theorem dX6_cut_49 : decode mX6_cut.2.1 49 = .ok (.bipush (-4), 2) := by decide +kernel
theorem dX6_cut_51 : decode mX6_cut.2.1 51 = .ok (.goto 5, 3) := by decide +kernel
theorem dX6_cut_54 : decode mX6_cut.2.1 54 = .ok (.iload 4, 2) := by decide +kernel
theorem dX6_cut_56 : decode mX6_cut.2.1 56 = .ok (.ireturn, 1) := by decide +kernel
theorem dX6_covers_0 : decode mX6_covers.2.1 0 = .ok (.iload_n 1, 1) := by decide +kernel
theorem dX6_covers_1 : decode mX6_covers.2.1 1 = .ok (.iconst 0, 1) := by decide +kernel
theorem dX6_covers_2 : decode mX6_covers.2.1 2 = .ok (.bipush 9, 2) := by decide +kernel
theorem dX6_covers_4 : decode mX6_covers.2.1 4 = .ok (.invokestatic 129, 3) := by decide +kernel
theorem dX6_covers_7 : decode mX6_covers.2.1 7 = .ok (.ifCond .eq 34, 3) := by decide +kernel
theorem dX6_covers_10 : decode mX6_covers.2.1 10 = .ok (.iload_n 2, 1) := by decide +kernel
theorem dX6_covers_11 : decode mX6_covers.2.1 11 = .ok (.iconst 1, 1) := by decide +kernel
theorem dX6_covers_12 : decode mX6_covers.2.1 12 = .ok (.bipush 12, 2) := by decide +kernel
theorem dX6_covers_14 : decode mX6_covers.2.1 14 = .ok (.invokestatic 129, 3) := by decide +kernel
theorem dX6_covers_17 : decode mX6_covers.2.1 17 = .ok (.ifCond .eq 24, 3) := by decide +kernel
theorem dX6_covers_20 : decode mX6_covers.2.1 20 = .ok (.iload_n 3, 1) := by decide +kernel
theorem dX6_covers_21 : decode mX6_covers.2.1 21 = .ok (.iconst 1, 1) := by decide +kernel
theorem dX6_covers_22 : decode mX6_covers.2.1 22 = .ok (.bipush 12, 2) := by decide +kernel
theorem dX6_covers_24 : decode mX6_covers.2.1 24 = .ok (.invokestatic 129, 3) := by decide +kernel
theorem dX6_covers_27 : decode mX6_covers.2.1 27 = .ok (.ifCond .eq 14, 3) := by decide +kernel
theorem dX6_covers_30 : decode mX6_covers.2.1 30 = .ok (.iload 4, 2) := by decide +kernel
theorem dX6_covers_32 : decode mX6_covers.2.1 32 = .ok (.iconst 1, 1) := by decide +kernel
theorem dX6_covers_33 : decode mX6_covers.2.1 33 = .ok (.bipush 8, 2) := by decide +kernel
theorem dX6_covers_35 : decode mX6_covers.2.1 35 = .ok (.invokestatic 129, 3) := by decide +kernel
theorem dX6_covers_38 : decode mX6_covers.2.1 38 = .ok (.ifCond .ne 6, 3) := by decide +kernel
theorem dX6_covers_41 : decode mX6_covers.2.1 41 = .ok (.bipush (-3), 2) := by decide +kernel
theorem dX6_covers_43 : decode mX6_covers.2.1 43 = .ok (.ireturn, 1) := by decide +kernel
theorem dX6_covers_44 : decode mX6_covers.2.1 44 = .ok (.iconst 0, 1) := by decide +kernel
theorem dX6_covers_45 : decode mX6_covers.2.1 45 = .ok (.istore 5, 2) := by decide +kernel
theorem dX6_covers_47 : decode mX6_covers.2.1 47 = .ok (.iload 5, 2) := by decide +kernel
theorem dX6_covers_49 : decode mX6_covers.2.1 49 = .ok (.sipush 864, 3) := by decide +kernel
theorem dX6_covers_52 : decode mX6_covers.2.1 52 = .ok (.if_icmp .ge 23, 3) := by decide +kernel
theorem dX6_covers_55 : decode mX6_covers.2.1 55 = .ok (.aload_n 0, 1) := by decide +kernel
theorem dX6_covers_56 : decode mX6_covers.2.1 56 = .ok (.getfield 108, 3) := by decide +kernel
theorem dX6_covers_59 : decode mX6_covers.2.1 59 = .ok (.iload 5, 2) := by decide +kernel
theorem dX6_covers_61 : decode mX6_covers.2.1 61 = .ok (.aload_n 0, 1) := by decide +kernel
theorem dX6_covers_62 : decode mX6_covers.2.1 62 = .ok (.getfield 102, 3) := by decide +kernel
theorem dX6_covers_65 : decode mX6_covers.2.1 65 = .ok (.iload 5, 2) := by decide +kernel
theorem dX6_covers_67 : decode mX6_covers.2.1 67 = .ok (.iaload, 1) := by decide +kernel
theorem dX6_covers_68 : decode mX6_covers.2.1 68 = .ok (.iastore, 1) := by decide +kernel
theorem dX6_covers_69 : decode mX6_covers.2.1 69 = .ok (.iinc 5 1, 3) := by decide +kernel
theorem dX6_covers_72 : decode mX6_covers.2.1 72 = .ok (.goto (-25), 3) := by decide +kernel
theorem dX6_covers_75 : decode mX6_covers.2.1 75 = .ok (.iconst 0, 1) := by decide +kernel
theorem dX6_covers_76 : decode mX6_covers.2.1 76 = .ok (.istore 5, 2) := by decide +kernel
theorem dX6_covers_78 : decode mX6_covers.2.1 78 = .ok (.iload 5, 2) := by decide +kernel
theorem dX6_covers_80 : decode mX6_covers.2.1 80 = .ok (.bipush 6, 2) := by decide +kernel
theorem dX6_covers_82 : decode mX6_covers.2.1 82 = .ok (.if_icmp .ge 23, 3) := by decide +kernel
theorem dX6_covers_85 : decode mX6_covers.2.1 85 = .ok (.aload_n 0, 1) := by decide +kernel
theorem dX6_covers_86 : decode mX6_covers.2.1 86 = .ok (.getfield 111, 3) := by decide +kernel
theorem dX6_covers_89 : decode mX6_covers.2.1 89 = .ok (.iload 5, 2) := by decide +kernel
theorem dX6_covers_91 : decode mX6_covers.2.1 91 = .ok (.aload_n 0, 1) := by decide +kernel
theorem dX6_covers_92 : decode mX6_covers.2.1 92 = .ok (.getfield 105, 3) := by decide +kernel
theorem dX6_covers_95 : decode mX6_covers.2.1 95 = .ok (.iload 5, 2) := by decide +kernel
theorem dX6_covers_97 : decode mX6_covers.2.1 97 = .ok (.iaload, 1) := by decide +kernel
theorem dX6_covers_98 : decode mX6_covers.2.1 98 = .ok (.iastore, 1) := by decide +kernel
theorem dX6_covers_99 : decode mX6_covers.2.1 99 = .ok (.iinc 5 1, 3) := by decide +kernel
theorem dX6_covers_102 : decode mX6_covers.2.1 102 = .ok (.goto (-24), 3) := by decide +kernel
theorem dX6_covers_105 : decode mX6_covers.2.1 105 = .ok (.iconst 0, 1) := by decide +kernel
theorem dX6_covers_106 : decode mX6_covers.2.1 106 = .ok (.istore 5, 2) := by decide +kernel
theorem dX6_covers_108 : decode mX6_covers.2.1 108 = .ok (.iconst 0, 1) := by decide +kernel
theorem dX6_covers_109 : decode mX6_covers.2.1 109 = .ok (.istore 6, 2) := by decide +kernel
theorem dX6_covers_111 : decode mX6_covers.2.1 111 = .ok (.iconst 0, 1) := by decide +kernel
theorem dX6_covers_112 : decode mX6_covers.2.1 112 = .ok (.istore 7, 2) := by decide +kernel
theorem dX6_covers_114 : decode mX6_covers.2.1 114 = .ok (.iload 7, 2) := by decide +kernel
theorem dX6_covers_116 : decode mX6_covers.2.1 116 = .ok (.aload_n 0, 1) := by decide +kernel
theorem dX6_covers_117 : decode mX6_covers.2.1 117 = .ok (.getfield 188, 3) := by decide +kernel
theorem dX6_covers_120 : decode mX6_covers.2.1 120 = .ok (.if_icmp .ge 54, 3) := by decide +kernel
theorem dX6_covers_123 : decode mX6_covers.2.1 123 = .ok (.iload 5, 2) := by decide +kernel
theorem dX6_covers_125 : decode mX6_covers.2.1 125 = .ok (.iload 4, 2) := by decide +kernel
theorem dX6_covers_127 : decode mX6_covers.2.1 127 = .ok (.if_icmp .ge 41, 3) := by decide +kernel
theorem dX6_covers_130 : decode mX6_covers.2.1 130 = .ok (.aload_n 0, 1) := by decide +kernel
theorem dX6_covers_131 : decode mX6_covers.2.1 131 = .ok (.getfield 99, 3) := by decide +kernel
theorem dX6_covers_134 : decode mX6_covers.2.1 134 = .ok (.iload 7, 2) := by decide +kernel
theorem dX6_covers_136 : decode mX6_covers.2.1 136 = .ok (.iaload, 1) := by decide +kernel
theorem dX6_covers_137 : decode mX6_covers.2.1 137 = .ok (.iload_n 1, 1) := by decide +kernel
theorem dX6_covers_138 : decode mX6_covers.2.1 138 = .ok (.if_icmp .ne 30, 3) := by decide +kernel
theorem dX6_covers_141 : decode mX6_covers.2.1 141 = .ok (.aload_n 0, 1) := by decide +kernel
theorem dX6_covers_142 : decode mX6_covers.2.1 142 = .ok (.iload 7, 2) := by decide +kernel
theorem dX6_covers_144 : decode mX6_covers.2.1 144 = .ok (.iload_n 2, 1) := by decide +kernel
theorem dX6_covers_145 : decode mX6_covers.2.1 145 = .ok (.iload_n 3, 1) := by decide +kernel
theorem dX6_covers_146 : decode mX6_covers.2.1 146 = .ok (.invokevirtual 205, 3) := by decide +kernel
theorem dX6_covers_149 : decode mX6_covers.2.1 149 = .ok (.iconst (-1), 1) := by decide +kernel
theorem dX6_covers_150 : decode mX6_covers.2.1 150 = .ok (.if_icmp .eq 18, 3) := by decide +kernel
theorem dX6_covers_153 : decode mX6_covers.2.1 153 = .ok (.iinc 5 1, 3) := by decide +kernel
theorem dX6_covers_156 : decode mX6_covers.2.1 156 = .ok (.iload 6, 2) := by decide +kernel
theorem dX6_covers_158 : decode mX6_covers.2.1 158 = .ok (.iconst 1, 1) := by decide +kernel
theorem dX6_covers_159 : decode mX6_covers.2.1 159 = .ok (.iload 7, 2) := by decide +kernel
theorem dX6_covers_161 : decode mX6_covers.2.1 161 = .ok (.ishl, 1) := by decide +kernel
theorem dX6_covers_162 : decode mX6_covers.2.1 162 = .ok (.ior, 1) := by decide +kernel
theorem dX6_covers_163 : decode mX6_covers.2.1 163 = .ok (.istore 6, 2) := by decide +kernel
theorem dX6_covers_165 : decode mX6_covers.2.1 165 = .ok (.goto (-42), 3) := by decide +kernel
theorem dX6_covers_168 : decode mX6_covers.2.1 168 = .ok (.iinc 7 1, 3) := by decide +kernel
theorem dX6_covers_171 : decode mX6_covers.2.1 171 = .ok (.goto (-57), 3) := by decide +kernel
theorem dX6_covers_174 : decode mX6_covers.2.1 174 = .ok (.iload 5, 2) := by decide +kernel
theorem dX6_covers_176 : decode mX6_covers.2.1 176 = .ok (.iload 4, 2) := by decide +kernel
theorem dX6_covers_178 : decode mX6_covers.2.1 178 = .ok (.if_icmp .ge 67, 3) := by decide +kernel
theorem dX6_covers_181 : decode mX6_covers.2.1 181 = .ok (.iconst 0, 1) := by decide +kernel
theorem dX6_covers_182 : decode mX6_covers.2.1 182 = .ok (.istore 7, 2) := by decide +kernel
theorem dX6_covers_184 : decode mX6_covers.2.1 184 = .ok (.iload 7, 2) := by decide +kernel
theorem dX6_covers_186 : decode mX6_covers.2.1 186 = .ok (.sipush 864, 3) := by decide +kernel
theorem dX6_covers_189 : decode mX6_covers.2.1 189 = .ok (.if_icmp .ge 23, 3) := by decide +kernel
theorem dX6_covers_192 : decode mX6_covers.2.1 192 = .ok (.aload_n 0, 1) := by decide +kernel
theorem dX6_covers_193 : decode mX6_covers.2.1 193 = .ok (.getfield 102, 3) := by decide +kernel
theorem dX6_covers_196 : decode mX6_covers.2.1 196 = .ok (.iload 7, 2) := by decide +kernel
theorem dX6_covers_198 : decode mX6_covers.2.1 198 = .ok (.aload_n 0, 1) := by decide +kernel
theorem dX6_covers_199 : decode mX6_covers.2.1 199 = .ok (.getfield 108, 3) := by decide +kernel
theorem dX6_covers_202 : decode mX6_covers.2.1 202 = .ok (.iload 7, 2) := by decide +kernel
theorem dX6_covers_204 : decode mX6_covers.2.1 204 = .ok (.iaload, 1) := by decide +kernel
theorem dX6_covers_205 : decode mX6_covers.2.1 205 = .ok (.iastore, 1) := by decide +kernel
theorem dX6_covers_206 : decode mX6_covers.2.1 206 = .ok (.iinc 7 1, 3) := by decide +kernel
theorem dX6_covers_209 : decode mX6_covers.2.1 209 = .ok (.goto (-25), 3) := by decide +kernel
theorem dX6_covers_212 : decode mX6_covers.2.1 212 = .ok (.iconst 0, 1) := by decide +kernel
theorem dX6_covers_213 : decode mX6_covers.2.1 213 = .ok (.istore 7, 2) := by decide +kernel
theorem dX6_covers_215 : decode mX6_covers.2.1 215 = .ok (.iload 7, 2) := by decide +kernel
theorem dX6_covers_217 : decode mX6_covers.2.1 217 = .ok (.bipush 6, 2) := by decide +kernel
theorem dX6_covers_219 : decode mX6_covers.2.1 219 = .ok (.if_icmp .ge 23, 3) := by decide +kernel
theorem dX6_covers_222 : decode mX6_covers.2.1 222 = .ok (.aload_n 0, 1) := by decide +kernel
theorem dX6_covers_223 : decode mX6_covers.2.1 223 = .ok (.getfield 105, 3) := by decide +kernel
theorem dX6_covers_226 : decode mX6_covers.2.1 226 = .ok (.iload 7, 2) := by decide +kernel
theorem dX6_covers_228 : decode mX6_covers.2.1 228 = .ok (.aload_n 0, 1) := by decide +kernel
theorem dX6_covers_229 : decode mX6_covers.2.1 229 = .ok (.getfield 111, 3) := by decide +kernel
theorem dX6_covers_232 : decode mX6_covers.2.1 232 = .ok (.iload 7, 2) := by decide +kernel
theorem dX6_covers_234 : decode mX6_covers.2.1 234 = .ok (.iaload, 1) := by decide +kernel
theorem dX6_covers_235 : decode mX6_covers.2.1 235 = .ok (.iastore, 1) := by decide +kernel
theorem dX6_covers_236 : decode mX6_covers.2.1 236 = .ok (.iinc 7 1, 3) := by decide +kernel
theorem dX6_covers_239 : decode mX6_covers.2.1 239 = .ok (.goto (-24), 3) := by decide +kernel
theorem dX6_covers_242 : decode mX6_covers.2.1 242 = .ok (.bipush (-4), 2) := by decide +kernel
theorem dX6_covers_244 : decode mX6_covers.2.1 244 = .ok (.ireturn, 1) := by decide +kernel
theorem dX6_covers_245 : decode mX6_covers.2.1 245 = .ok (.iload 6, 2) := by decide +kernel
theorem dX6_covers_247 : decode mX6_covers.2.1 247 = .ok (.invokestatic 141, 3) := by decide +kernel
theorem dX6_covers_250 : decode mX6_covers.2.1 250 = .ok (.ireturn, 1) := by decide +kernel
theorem dX6_spot_0 : decode mX6_spot.2.1 0 = .ok (.aload_n 0, 1) := by decide +kernel
theorem dX6_spot_1 : decode mX6_spot.2.1 1 = .ok (.iload_n 1, 1) := by decide +kernel
theorem dX6_spot_2 : decode mX6_spot.2.1 2 = .ok (.invokevirtual 191, 3) := by decide +kernel
theorem dX6_spot_5 : decode mX6_spot.2.1 5 = .ok (.ifCond .ne 6, 3) := by decide +kernel
theorem dX6_spot_8 : decode mX6_spot.2.1 8 = .ok (.bipush (-2), 2) := by decide +kernel
theorem dX6_spot_10 : decode mX6_spot.2.1 10 = .ok (.ireturn, 1) := by decide +kernel
theorem dX6_spot_11 : decode mX6_spot.2.1 11 = .ok (.aload_n 0, 1) := by decide +kernel
theorem dX6_spot_12 : decode mX6_spot.2.1 12 = .ok (.iload_n 1, 1) := by decide +kernel
theorem dX6_spot_13 : decode mX6_spot.2.1 13 = .ok (.iload_n 2, 1) := by decide +kernel
theorem dX6_spot_14 : decode mX6_spot.2.1 14 = .ok (.iload_n 3, 1) := by decide +kernel
theorem dX6_spot_15 : decode mX6_spot.2.1 15 = .ok (.invokevirtual 194, 3) := by decide +kernel
theorem dX6_spot_18 : decode mX6_spot.2.1 18 = .ok (.ifCond .eq 23, 3) := by decide +kernel
theorem dX6_spot_21 : decode mX6_spot.2.1 21 = .ok (.aload_n 0, 1) := by decide +kernel
theorem dX6_spot_22 : decode mX6_spot.2.1 22 = .ok (.getfield 102, 3) := by decide +kernel
theorem dX6_spot_25 : decode mX6_spot.2.1 25 = .ok (.sipush 144, 3) := by decide +kernel
theorem dX6_spot_28 : decode mX6_spot.2.1 28 = .ok (.iload_n 1, 1) := by decide +kernel
theorem dX6_spot_29 : decode mX6_spot.2.1 29 = .ok (.imul, 1) := by decide +kernel
theorem dX6_spot_30 : decode mX6_spot.2.1 30 = .ok (.bipush 12, 2) := by decide +kernel
theorem dX6_spot_32 : decode mX6_spot.2.1 32 = .ok (.iload_n 3, 1) := by decide +kernel
theorem dX6_spot_33 : decode mX6_spot.2.1 33 = .ok (.imul, 1) := by decide +kernel
theorem dX6_spot_34 : decode mX6_spot.2.1 34 = .ok (.iadd, 1) := by decide +kernel
theorem dX6_spot_35 : decode mX6_spot.2.1 35 = .ok (.iload_n 2, 1) := by decide +kernel
theorem dX6_spot_36 : decode mX6_spot.2.1 36 = .ok (.iadd, 1) := by decide +kernel
theorem dX6_spot_37 : decode mX6_spot.2.1 37 = .ok (.iaload, 1) := by decide +kernel
theorem dX6_spot_38 : decode mX6_spot.2.1 38 = .ok (.goto 5, 3) := by decide +kernel
theorem dX6_spot_41 : decode mX6_spot.2.1 41 = .ok (.bipush (-3), 2) := by decide +kernel
theorem dX6_spot_43 : decode mX6_spot.2.1 43 = .ok (.ireturn, 1) := by decide +kernel
theorem dX6_isDay_0 : decode mX6_isDay.2.1 0 = .ok (.iload_n 0, 1) := by decide +kernel
theorem dX6_isDay_1 : decode mX6_isDay.2.1 1 = .ok (.iconst 0, 1) := by decide +kernel
theorem dX6_isDay_2 : decode mX6_isDay.2.1 2 = .ok (.sipush 1000, 3) := by decide +kernel
theorem dX6_isDay_5 : decode mX6_isDay.2.1 5 = .ok (.invokestatic 129, 3) := by decide +kernel
theorem dX6_isDay_8 : decode mX6_isDay.2.1 8 = .ok (.ireturn, 1) := by decide +kernel
theorem dX6_days_0 : decode mX6_days.2.1 0 = .ok (.iload_n 1, 1) := by decide +kernel
theorem dX6_days_1 : decode mX6_days.2.1 1 = .ok (.iconst 1, 1) := by decide +kernel
theorem dX6_days_2 : decode mX6_days.2.1 2 = .ok (.bipush 100, 2) := by decide +kernel
theorem dX6_days_4 : decode mX6_days.2.1 4 = .ok (.invokestatic 129, 3) := by decide +kernel
theorem dX6_days_7 : decode mX6_days.2.1 7 = .ok (.ifCond .eq 15, 3) := by decide +kernel
theorem dX6_days_10 : decode mX6_days.2.1 10 = .ok (.aload_n 0, 1) := by decide +kernel
theorem dX6_days_11 : decode mX6_days.2.1 11 = .ok (.getfield 148, 3) := by decide +kernel
theorem dX6_days_14 : decode mX6_days.2.1 14 = .ok (.iload_n 1, 1) := by decide +kernel
theorem dX6_days_15 : decode mX6_days.2.1 15 = .ok (.iadd, 1) := by decide +kernel
theorem dX6_days_16 : decode mX6_days.2.1 16 = .ok (.sipush 1000, 3) := by decide +kernel
theorem dX6_days_19 : decode mX6_days.2.1 19 = .ok (.if_icmp .le 6, 3) := by decide +kernel
theorem dX6_days_22 : decode mX6_days.2.1 22 = .ok (.bipush (-3), 2) := by decide +kernel
theorem dX6_days_24 : decode mX6_days.2.1 24 = .ok (.ireturn, 1) := by decide +kernel
theorem dX6_days_25 : decode mX6_days.2.1 25 = .ok (.aload_n 0, 1) := by decide +kernel
theorem dX6_days_26 : decode mX6_days.2.1 26 = .ok (.dup, 1) := by decide +kernel
theorem dX6_days_27 : decode mX6_days.2.1 27 = .ok (.getfield 148, 3) := by decide +kernel
theorem dX6_days_30 : decode mX6_days.2.1 30 = .ok (.iload_n 1, 1) := by decide +kernel
theorem dX6_days_31 : decode mX6_days.2.1 31 = .ok (.iadd, 1) := by decide +kernel
theorem dX6_days_32 : decode mX6_days.2.1 32 = .ok (.putfield 148, 3) := by decide +kernel
theorem dX6_days_35 : decode mX6_days.2.1 35 = .ok (.aload_n 0, 1) := by decide +kernel
theorem dX6_days_36 : decode mX6_days.2.1 36 = .ok (.getfield 148, 3) := by decide +kernel
theorem dX6_days_39 : decode mX6_days.2.1 39 = .ok (.ireturn, 1) := by decide +kernel
theorem dX6_rate_0 : decode mX6_rate.2.1 0 = .ok (.iload_n 1, 1) := by decide +kernel
theorem dX6_rate_1 : decode mX6_rate.2.1 1 = .ok (.invokestatic 151, 3) := by decide +kernel
theorem dX6_rate_4 : decode mX6_rate.2.1 4 = .ok (.ifCond .ne 6, 3) := by decide +kernel
theorem dX6_rate_7 : decode mX6_rate.2.1 7 = .ok (.bipush (-2), 2) := by decide +kernel
theorem dX6_rate_9 : decode mX6_rate.2.1 9 = .ok (.ireturn, 1) := by decide +kernel
theorem dX6_rate_10 : decode mX6_rate.2.1 10 = .ok (.iload_n 2, 1) := by decide +kernel
theorem dX6_rate_11 : decode mX6_rate.2.1 11 = .ok (.invokestatic 209, 3) := by decide +kernel
theorem dX6_rate_14 : decode mX6_rate.2.1 14 = .ok (.ifCond .eq 14, 3) := by decide +kernel
theorem dX6_rate_17 : decode mX6_rate.2.1 17 = .ok (.iload_n 3, 1) := by decide +kernel
theorem dX6_rate_18 : decode mX6_rate.2.1 18 = .ok (.iconst 0, 1) := by decide +kernel
theorem dX6_rate_19 : decode mX6_rate.2.1 19 = .ok (.sipush 500, 3) := by decide +kernel
theorem dX6_rate_22 : decode mX6_rate.2.1 22 = .ok (.invokestatic 129, 3) := by decide +kernel
theorem dX6_rate_25 : decode mX6_rate.2.1 25 = .ok (.ifCond .ne 6, 3) := by decide +kernel
theorem dX6_rate_28 : decode mX6_rate.2.1 28 = .ok (.bipush (-3), 2) := by decide +kernel
theorem dX6_rate_30 : decode mX6_rate.2.1 30 = .ok (.ireturn, 1) := by decide +kernel
theorem dX6_rate_31 : decode mX6_rate.2.1 31 = .ok (.aload_n 0, 1) := by decide +kernel
theorem dX6_rate_32 : decode mX6_rate.2.1 32 = .ok (.getfield 212, 3) := by decide +kernel
theorem dX6_rate_35 : decode mX6_rate.2.1 35 = .ok (.bipush 30, 2) := by decide +kernel
theorem dX6_rate_37 : decode mX6_rate.2.1 37 = .ok (.if_icmp .ne 6, 3) := by decide +kernel
theorem dX6_rate_40 : decode mX6_rate.2.1 40 = .ok (.bipush (-6), 2) := by decide +kernel
theorem dX6_rate_42 : decode mX6_rate.2.1 42 = .ok (.ireturn, 1) := by decide +kernel
theorem dX6_rate_43 : decode mX6_rate.2.1 43 = .ok (.aload_n 0, 1) := by decide +kernel
theorem dX6_rate_44 : decode mX6_rate.2.1 44 = .ok (.getfield 114, 3) := by decide +kernel
theorem dX6_rate_47 : decode mX6_rate.2.1 47 = .ok (.aload_n 0, 1) := by decide +kernel
theorem dX6_rate_48 : decode mX6_rate.2.1 48 = .ok (.getfield 212, 3) := by decide +kernel
theorem dX6_rate_51 : decode mX6_rate.2.1 51 = .ok (.iload_n 1, 1) := by decide +kernel
theorem dX6_rate_52 : decode mX6_rate.2.1 52 = .ok (.iastore, 1) := by decide +kernel
theorem dX6_rate_53 : decode mX6_rate.2.1 53 = .ok (.aload_n 0, 1) := by decide +kernel
theorem dX6_rate_54 : decode mX6_rate.2.1 54 = .ok (.getfield 117, 3) := by decide +kernel
theorem dX6_rate_57 : decode mX6_rate.2.1 57 = .ok (.aload_n 0, 1) := by decide +kernel
theorem dX6_rate_58 : decode mX6_rate.2.1 58 = .ok (.getfield 212, 3) := by decide +kernel
theorem dX6_rate_61 : decode mX6_rate.2.1 61 = .ok (.iload_n 2, 1) := by decide +kernel
theorem dX6_rate_62 : decode mX6_rate.2.1 62 = .ok (.iastore, 1) := by decide +kernel
theorem dX6_rate_63 : decode mX6_rate.2.1 63 = .ok (.aload_n 0, 1) := by decide +kernel
theorem dX6_rate_64 : decode mX6_rate.2.1 64 = .ok (.getfield 120, 3) := by decide +kernel
theorem dX6_rate_67 : decode mX6_rate.2.1 67 = .ok (.aload_n 0, 1) := by decide +kernel
theorem dX6_rate_68 : decode mX6_rate.2.1 68 = .ok (.getfield 212, 3) := by decide +kernel
theorem dX6_rate_71 : decode mX6_rate.2.1 71 = .ok (.iload_n 3, 1) := by decide +kernel
theorem dX6_rate_72 : decode mX6_rate.2.1 72 = .ok (.iastore, 1) := by decide +kernel
theorem dX6_rate_73 : decode mX6_rate.2.1 73 = .ok (.aload_n 0, 1) := by decide +kernel
theorem dX6_rate_74 : decode mX6_rate.2.1 74 = .ok (.getfield 123, 3) := by decide +kernel
theorem dX6_rate_77 : decode mX6_rate.2.1 77 = .ok (.aload_n 0, 1) := by decide +kernel
theorem dX6_rate_78 : decode mX6_rate.2.1 78 = .ok (.getfield 212, 3) := by decide +kernel
theorem dX6_rate_81 : decode mX6_rate.2.1 81 = .ok (.aload_n 0, 1) := by decide +kernel
theorem dX6_rate_82 : decode mX6_rate.2.1 82 = .ok (.getfield 148, 3) := by decide +kernel
theorem dX6_rate_85 : decode mX6_rate.2.1 85 = .ok (.iastore, 1) := by decide +kernel
theorem dX6_rate_86 : decode mX6_rate.2.1 86 = .ok (.aload_n 0, 1) := by decide +kernel
theorem dX6_rate_87 : decode mX6_rate.2.1 87 = .ok (.dup, 1) := by decide +kernel
theorem dX6_rate_88 : decode mX6_rate.2.1 88 = .ok (.getfield 212, 3) := by decide +kernel
theorem dX6_rate_91 : decode mX6_rate.2.1 91 = .ok (.iconst 1, 1) := by decide +kernel
theorem dX6_rate_92 : decode mX6_rate.2.1 92 = .ok (.iadd, 1) := by decide +kernel
theorem dX6_rate_93 : decode mX6_rate.2.1 93 = .ok (.putfield 212, 3) := by decide +kernel
theorem dX6_rate_96 : decode mX6_rate.2.1 96 = .ok (.aload_n 0, 1) := by decide +kernel
theorem dX6_rate_97 : decode mX6_rate.2.1 97 = .ok (.getfield 212, 3) := by decide +kernel
theorem dX6_rate_100 : decode mX6_rate.2.1 100 = .ok (.ireturn, 1) := by decide +kernel
theorem dX6_rateOf_0 : decode mX6_rateOf.2.1 0 = .ok (.iconst (-1), 1) := by decide +kernel
theorem dX6_rateOf_1 : decode mX6_rateOf.2.1 1 = .ok (.istore 4, 2) := by decide +kernel
theorem dX6_rateOf_3 : decode mX6_rateOf.2.1 3 = .ok (.iconst 0, 1) := by decide +kernel
theorem dX6_rateOf_4 : decode mX6_rateOf.2.1 4 = .ok (.istore 5, 2) := by decide +kernel
theorem dX6_rateOf_6 : decode mX6_rateOf.2.1 6 = .ok (.iload 5, 2) := by decide +kernel
theorem dX6_rateOf_8 : decode mX6_rateOf.2.1 8 = .ok (.aload_n 0, 1) := by decide +kernel
theorem dX6_rateOf_9 : decode mX6_rateOf.2.1 9 = .ok (.getfield 212, 3) := by decide +kernel
theorem dX6_rateOf_12 : decode mX6_rateOf.2.1 12 = .ok (.if_icmp .ge 86, 3) := by decide +kernel
theorem dX6_rateOf_15 : decode mX6_rateOf.2.1 15 = .ok (.aload_n 0, 1) := by decide +kernel
theorem dX6_rateOf_16 : decode mX6_rateOf.2.1 16 = .ok (.getfield 114, 3) := by decide +kernel
theorem dX6_rateOf_19 : decode mX6_rateOf.2.1 19 = .ok (.iload 5, 2) := by decide +kernel
theorem dX6_rateOf_21 : decode mX6_rateOf.2.1 21 = .ok (.iaload, 1) := by decide +kernel
theorem dX6_rateOf_22 : decode mX6_rateOf.2.1 22 = .ok (.iload_n 1, 1) := by decide +kernel
theorem dX6_rateOf_23 : decode mX6_rateOf.2.1 23 = .ok (.if_icmp .ne 29, 3) := by decide +kernel
theorem dX6_rateOf_26 : decode mX6_rateOf.2.1 26 = .ok (.aload_n 0, 1) := by decide +kernel
theorem dX6_rateOf_27 : decode mX6_rateOf.2.1 27 = .ok (.getfield 123, 3) := by decide +kernel
theorem dX6_rateOf_30 : decode mX6_rateOf.2.1 30 = .ok (.iload 5, 2) := by decide +kernel
theorem dX6_rateOf_32 : decode mX6_rateOf.2.1 32 = .ok (.iaload, 1) := by decide +kernel
theorem dX6_rateOf_33 : decode mX6_rateOf.2.1 33 = .ok (.iload_n 3, 1) := by decide +kernel
theorem dX6_rateOf_34 : decode mX6_rateOf.2.1 34 = .ok (.if_icmp .gt 18, 3) := by decide +kernel
theorem dX6_rateOf_37 : decode mX6_rateOf.2.1 37 = .ok (.aload_n 0, 1) := by decide +kernel
theorem dX6_rateOf_38 : decode mX6_rateOf.2.1 38 = .ok (.getfield 117, 3) := by decide +kernel
theorem dX6_rateOf_41 : decode mX6_rateOf.2.1 41 = .ok (.iload 5, 2) := by decide +kernel
theorem dX6_rateOf_43 : decode mX6_rateOf.2.1 43 = .ok (.iaload, 1) := by decide +kernel
theorem dX6_rateOf_44 : decode mX6_rateOf.2.1 44 = .ok (.iload_n 2, 1) := by decide +kernel
theorem dX6_rateOf_45 : decode mX6_rateOf.2.1 45 = .ok (.if_icmp .gt 7, 3) := by decide +kernel
theorem dX6_rateOf_48 : decode mX6_rateOf.2.1 48 = .ok (.iconst 1, 1) := by decide +kernel
theorem dX6_rateOf_49 : decode mX6_rateOf.2.1 49 = .ok (.goto 4, 3) := by decide +kernel
theorem dX6_rateOf_52 : decode mX6_rateOf.2.1 52 = .ok (.iconst 0, 1) := by decide +kernel
theorem dX6_rateOf_53 : decode mX6_rateOf.2.1 53 = .ok (.istore 6, 2) := by decide +kernel
theorem dX6_rateOf_55 : decode mX6_rateOf.2.1 55 = .ok (.iload 6, 2) := by decide +kernel
theorem dX6_rateOf_57 : decode mX6_rateOf.2.1 57 = .ok (.ifCond .eq 31, 3) := by decide +kernel
theorem dX6_rateOf_60 : decode mX6_rateOf.2.1 60 = .ok (.iload 4, 2) := by decide +kernel
theorem dX6_rateOf_62 : decode mX6_rateOf.2.1 62 = .ok (.iconst (-1), 1) := by decide +kernel
theorem dX6_rateOf_63 : decode mX6_rateOf.2.1 63 = .ok (.if_icmp .eq 20, 3) := by decide +kernel
theorem dX6_rateOf_66 : decode mX6_rateOf.2.1 66 = .ok (.aload_n 0, 1) := by decide +kernel
theorem dX6_rateOf_67 : decode mX6_rateOf.2.1 67 = .ok (.getfield 117, 3) := by decide +kernel
theorem dX6_rateOf_70 : decode mX6_rateOf.2.1 70 = .ok (.iload 5, 2) := by decide +kernel
theorem dX6_rateOf_72 : decode mX6_rateOf.2.1 72 = .ok (.iaload, 1) := by decide +kernel
theorem dX6_rateOf_73 : decode mX6_rateOf.2.1 73 = .ok (.aload_n 0, 1) := by decide +kernel
theorem dX6_rateOf_74 : decode mX6_rateOf.2.1 74 = .ok (.getfield 117, 3) := by decide +kernel
theorem dX6_rateOf_77 : decode mX6_rateOf.2.1 77 = .ok (.iload 4, 2) := by decide +kernel
theorem dX6_rateOf_79 : decode mX6_rateOf.2.1 79 = .ok (.iaload, 1) := by decide +kernel
theorem dX6_rateOf_80 : decode mX6_rateOf.2.1 80 = .ok (.if_icmp .lt 8, 3) := by decide +kernel
theorem dX6_rateOf_83 : decode mX6_rateOf.2.1 83 = .ok (.iload 5, 2) := by decide +kernel
theorem dX6_rateOf_85 : decode mX6_rateOf.2.1 85 = .ok (.goto 5, 3) := by decide +kernel
theorem dX6_rateOf_88 : decode mX6_rateOf.2.1 88 = .ok (.iload 4, 2) := by decide +kernel
theorem dX6_rateOf_90 : decode mX6_rateOf.2.1 90 = .ok (.istore 4, 2) := by decide +kernel
theorem dX6_rateOf_92 : decode mX6_rateOf.2.1 92 = .ok (.iinc 5 1, 3) := by decide +kernel
theorem dX6_rateOf_95 : decode mX6_rateOf.2.1 95 = .ok (.goto (-89), 3) := by decide +kernel
theorem dX6_rateOf_98 : decode mX6_rateOf.2.1 98 = .ok (.iload 4, 2) := by decide +kernel
theorem dX6_rateOf_100 : decode mX6_rateOf.2.1 100 = .ok (.iconst (-1), 1) := by decide +kernel
theorem dX6_rateOf_101 : decode mX6_rateOf.2.1 101 = .ok (.if_icmp .ne 7, 3) := by decide +kernel
theorem dX6_rateOf_104 : decode mX6_rateOf.2.1 104 = .ok (.iconst 0, 1) := by decide +kernel
theorem dX6_rateOf_105 : decode mX6_rateOf.2.1 105 = .ok (.goto 10, 3) := by decide +kernel
theorem dX6_rateOf_108 : decode mX6_rateOf.2.1 108 = .ok (.aload_n 0, 1) := by decide +kernel
theorem dX6_rateOf_109 : decode mX6_rateOf.2.1 109 = .ok (.getfield 120, 3) := by decide +kernel
theorem dX6_rateOf_112 : decode mX6_rateOf.2.1 112 = .ok (.iload 4, 2) := by decide +kernel
theorem dX6_rateOf_114 : decode mX6_rateOf.2.1 114 = .ok (.iaload, 1) := by decide +kernel
theorem dX6_rateOf_115 : decode mX6_rateOf.2.1 115 = .ok (.ireturn, 1) := by decide +kernel
theorem dX6_rateAt_0 : decode mX6_rateAt.2.1 0 = .ok (.iload_n 1, 1) := by decide +kernel
theorem dX6_rateAt_1 : decode mX6_rateAt.2.1 1 = .ok (.invokestatic 151, 3) := by decide +kernel
theorem dX6_rateAt_4 : decode mX6_rateAt.2.1 4 = .ok (.ifCond .ne 6, 3) := by decide +kernel
theorem dX6_rateAt_7 : decode mX6_rateAt.2.1 7 = .ok (.bipush (-2), 2) := by decide +kernel
theorem dX6_rateAt_9 : decode mX6_rateAt.2.1 9 = .ok (.ireturn, 1) := by decide +kernel
theorem dX6_rateAt_10 : decode mX6_rateAt.2.1 10 = .ok (.iload_n 2, 1) := by decide +kernel
theorem dX6_rateAt_11 : decode mX6_rateAt.2.1 11 = .ok (.invokestatic 209, 3) := by decide +kernel
theorem dX6_rateAt_14 : decode mX6_rateAt.2.1 14 = .ok (.ifCond .eq 20, 3) := by decide +kernel
theorem dX6_rateAt_17 : decode mX6_rateAt.2.1 17 = .ok (.iload_n 3, 1) := by decide +kernel
theorem dX6_rateAt_18 : decode mX6_rateAt.2.1 18 = .ok (.invokestatic 209, 3) := by decide +kernel
theorem dX6_rateAt_21 : decode mX6_rateAt.2.1 21 = .ok (.ifCond .eq 13, 3) := by decide +kernel
theorem dX6_rateAt_24 : decode mX6_rateAt.2.1 24 = .ok (.aload_n 0, 1) := by decide +kernel
theorem dX6_rateAt_25 : decode mX6_rateAt.2.1 25 = .ok (.iload_n 1, 1) := by decide +kernel
theorem dX6_rateAt_26 : decode mX6_rateAt.2.1 26 = .ok (.iload_n 2, 1) := by decide +kernel
theorem dX6_rateAt_27 : decode mX6_rateAt.2.1 27 = .ok (.iload_n 3, 1) := by decide +kernel
theorem dX6_rateAt_28 : decode mX6_rateAt.2.1 28 = .ok (.invokevirtual 215, 3) := by decide +kernel
theorem dX6_rateAt_31 : decode mX6_rateAt.2.1 31 = .ok (.goto 5, 3) := by decide +kernel
theorem dX6_rateAt_34 : decode mX6_rateAt.2.1 34 = .ok (.bipush (-3), 2) := by decide +kernel
theorem dX6_rateAt_36 : decode mX6_rateAt.2.1 36 = .ok (.ireturn, 1) := by decide +kernel
theorem dX6_wages_0 : decode mX6_wages.2.1 0 = .ok (.iload_n 1, 1) := by decide +kernel
theorem dX6_wages_1 : decode mX6_wages.2.1 1 = .ok (.invokestatic 209, 3) := by decide +kernel
theorem dX6_wages_4 : decode mX6_wages.2.1 4 = .ok (.ifCond .eq 17, 3) := by decide +kernel
theorem dX6_wages_7 : decode mX6_wages.2.1 7 = .ok (.iload_n 2, 1) := by decide +kernel
theorem dX6_wages_8 : decode mX6_wages.2.1 8 = .ok (.invokestatic 209, 3) := by decide +kernel
theorem dX6_wages_11 : decode mX6_wages.2.1 11 = .ok (.ifCond .eq 10, 3) := by decide +kernel
theorem dX6_wages_14 : decode mX6_wages.2.1 14 = .ok (.iload_n 3, 1) := by decide +kernel
theorem dX6_wages_15 : decode mX6_wages.2.1 15 = .ok (.invokestatic 209, 3) := by decide +kernel
theorem dX6_wages_18 : decode mX6_wages.2.1 18 = .ok (.ifCond .ne 6, 3) := by decide +kernel
theorem dX6_wages_21 : decode mX6_wages.2.1 21 = .ok (.bipush (-3), 2) := by decide +kernel
theorem dX6_wages_23 : decode mX6_wages.2.1 23 = .ok (.ireturn, 1) := by decide +kernel
theorem dX6_wages_24 : decode mX6_wages.2.1 24 = .ok (.iconst 0, 1) := by decide +kernel
theorem dX6_wages_25 : decode mX6_wages.2.1 25 = .ok (.istore 4, 2) := by decide +kernel
theorem dX6_wages_27 : decode mX6_wages.2.1 27 = .ok (.iconst 0, 1) := by decide +kernel
theorem dX6_wages_28 : decode mX6_wages.2.1 28 = .ok (.istore 5, 2) := by decide +kernel
theorem dX6_wages_30 : decode mX6_wages.2.1 30 = .ok (.iload 5, 2) := by decide +kernel
theorem dX6_wages_32 : decode mX6_wages.2.1 32 = .ok (.aload_n 0, 1) := by decide +kernel
theorem dX6_wages_33 : decode mX6_wages.2.1 33 = .ok (.getfield 145, 3) := by decide +kernel
theorem dX6_wages_36 : decode mX6_wages.2.1 36 = .ok (.if_icmp .ge 52, 3) := by decide +kernel
theorem dX6_wages_39 : decode mX6_wages.2.1 39 = .ok (.iload 4, 2) := by decide +kernel
theorem dX6_wages_41 : decode mX6_wages.2.1 41 = .ok (.aload_n 0, 1) := by decide +kernel
theorem dX6_wages_42 : decode mX6_wages.2.1 42 = .ok (.getfield 47, 3) := by decide +kernel
theorem dX6_wages_45 : decode mX6_wages.2.1 45 = .ok (.iload 5, 2) := by decide +kernel
theorem dX6_wages_47 : decode mX6_wages.2.1 47 = .ok (.iaload, 1) := by decide +kernel
theorem dX6_wages_48 : decode mX6_wages.2.1 48 = .ok (.iload_n 1, 1) := by decide +kernel
theorem dX6_wages_49 : decode mX6_wages.2.1 49 = .ok (.iload_n 2, 1) := by decide +kernel
theorem dX6_wages_50 : decode mX6_wages.2.1 50 = .ok (.invokestatic 129, 3) := by decide +kernel
theorem dX6_wages_53 : decode mX6_wages.2.1 53 = .ok (.ifCond .eq 25, 3) := by decide +kernel
theorem dX6_wages_56 : decode mX6_wages.2.1 56 = .ok (.aload_n 0, 1) := by decide +kernel
theorem dX6_wages_57 : decode mX6_wages.2.1 57 = .ok (.aload_n 0, 1) := by decide +kernel
theorem dX6_wages_58 : decode mX6_wages.2.1 58 = .ok (.getfield 44, 3) := by decide +kernel
theorem dX6_wages_61 : decode mX6_wages.2.1 61 = .ok (.iload 5, 2) := by decide +kernel
theorem dX6_wages_63 : decode mX6_wages.2.1 63 = .ok (.iaload, 1) := by decide +kernel
theorem dX6_wages_64 : decode mX6_wages.2.1 64 = .ok (.aload_n 0, 1) := by decide +kernel
theorem dX6_wages_65 : decode mX6_wages.2.1 65 = .ok (.getfield 47, 3) := by decide +kernel
theorem dX6_wages_68 : decode mX6_wages.2.1 68 = .ok (.iload 5, 2) := by decide +kernel
theorem dX6_wages_70 : decode mX6_wages.2.1 70 = .ok (.iaload, 1) := by decide +kernel
theorem dX6_wages_71 : decode mX6_wages.2.1 71 = .ok (.iload_n 3, 1) := by decide +kernel
theorem dX6_wages_72 : decode mX6_wages.2.1 72 = .ok (.invokevirtual 215, 3) := by decide +kernel
theorem dX6_wages_75 : decode mX6_wages.2.1 75 = .ok (.goto 4, 3) := by decide +kernel
theorem dX6_wages_78 : decode mX6_wages.2.1 78 = .ok (.iconst 0, 1) := by decide +kernel
theorem dX6_wages_79 : decode mX6_wages.2.1 79 = .ok (.iadd, 1) := by decide +kernel
theorem dX6_wages_80 : decode mX6_wages.2.1 80 = .ok (.istore 4, 2) := by decide +kernel
theorem dX6_wages_82 : decode mX6_wages.2.1 82 = .ok (.iinc 5 1, 3) := by decide +kernel
theorem dX6_wages_85 : decode mX6_wages.2.1 85 = .ok (.goto (-55), 3) := by decide +kernel
theorem dX6_wages_88 : decode mX6_wages.2.1 88 = .ok (.iload 4, 2) := by decide +kernel
theorem dX6_wages_90 : decode mX6_wages.2.1 90 = .ok (.ireturn, 1) := by decide +kernel
theorem dX6_count_0 : decode mX6_count.2.1 0 = .ok (.aload_n 0, 1) := by decide +kernel
theorem dX6_count_1 : decode mX6_count.2.1 1 = .ok (.invokevirtual 175, 3) := by decide +kernel
theorem dX6_count_4 : decode mX6_count.2.1 4 = .ok (.iload_n 1, 1) := by decide +kernel
theorem dX6_count_5 : decode mX6_count.2.1 5 = .ok (.tableswitch 78 0 6 #[43, 48, 53, 58, 63, 68, 73], 43) := by decide +kernel
theorem dX6_count_48 : decode mX6_count.2.1 48 = .ok (.aload_n 0, 1) := by decide +kernel
theorem dX6_count_49 : decode mX6_count.2.1 49 = .ok (.getfield 126, 3) := by decide +kernel
theorem dX6_count_52 : decode mX6_count.2.1 52 = .ok (.ireturn, 1) := by decide +kernel
theorem dX6_count_53 : decode mX6_count.2.1 53 = .ok (.aload_n 0, 1) := by decide +kernel
theorem dX6_count_54 : decode mX6_count.2.1 54 = .ok (.getfield 188, 3) := by decide +kernel
theorem dX6_count_57 : decode mX6_count.2.1 57 = .ok (.ireturn, 1) := by decide +kernel
theorem dX6_count_58 : decode mX6_count.2.1 58 = .ok (.aload_n 0, 1) := by decide +kernel
theorem dX6_count_59 : decode mX6_count.2.1 59 = .ok (.getfield 145, 3) := by decide +kernel
theorem dX6_count_62 : decode mX6_count.2.1 62 = .ok (.ireturn, 1) := by decide +kernel
theorem dX6_count_63 : decode mX6_count.2.1 63 = .ok (.aload_n 0, 1) := by decide +kernel
theorem dX6_count_64 : decode mX6_count.2.1 64 = .ok (.getfield 148, 3) := by decide +kernel
theorem dX6_count_67 : decode mX6_count.2.1 67 = .ok (.ireturn, 1) := by decide +kernel
theorem dX6_count_68 : decode mX6_count.2.1 68 = .ok (.aload_n 0, 1) := by decide +kernel
theorem dX6_count_69 : decode mX6_count.2.1 69 = .ok (.getfield 165, 3) := by decide +kernel
theorem dX6_count_72 : decode mX6_count.2.1 72 = .ok (.ireturn, 1) := by decide +kernel
theorem dX6_count_73 : decode mX6_count.2.1 73 = .ok (.aload_n 0, 1) := by decide +kernel
theorem dX6_count_74 : decode mX6_count.2.1 74 = .ok (.getfield 168, 3) := by decide +kernel
theorem dX6_count_77 : decode mX6_count.2.1 77 = .ok (.ireturn, 1) := by decide +kernel
theorem dX6_count_78 : decode mX6_count.2.1 78 = .ok (.aload_n 0, 1) := by decide +kernel
theorem dX6_count_79 : decode mX6_count.2.1 79 = .ok (.getfield 212, 3) := by decide +kernel
theorem dX6_count_82 : decode mX6_count.2.1 82 = .ok (.ireturn, 1) := by decide +kernel
theorem dX6_count_83 : decode mX6_count.2.1 83 = .ok (.bipush (-3), 2) := by decide +kernel
theorem dX6_count_85 : decode mX6_count.2.1 85 = .ok (.ireturn, 1) := by decide +kernel
end
section
theorem dL_law_0 : decode mL_law.2.1 0 = .ok (.new 7, 3) := by decide +kernel
theorem dL_law_3 : decode mL_law.2.1 3 = .ok (.dup, 1) := by decide +kernel
theorem dL_law_4 : decode mL_law.2.1 4 = .ok (.invokespecial 9, 3) := by decide +kernel
theorem dL_law_7 : decode mL_law.2.1 7 = .ok (.astore_n 1, 1) := by decide +kernel
theorem dL_law_8 : decode mL_law.2.1 8 = .ok (.new 10, 3) := by decide +kernel
theorem dL_law_11 : decode mL_law.2.1 11 = .ok (.dup, 1) := by decide +kernel
theorem dL_law_12 : decode mL_law.2.1 12 = .ok (.invokespecial 12, 3) := by decide +kernel
theorem dL_law_15 : decode mL_law.2.1 15 = .ok (.astore_n 2, 1) := by decide +kernel
theorem dL_law_16 : decode mL_law.2.1 16 = .ok (.iconst 0, 1) := by decide +kernel
theorem dL_law_17 : decode mL_law.2.1 17 = .ok (.istore_n 3, 1) := by decide +kernel
theorem dL_law_18 : decode mL_law.2.1 18 = .ok (.iload_n 3, 1) := by decide +kernel
theorem dL_law_19 : decode mL_law.2.1 19 = .ok (.aload_n 0, 1) := by decide +kernel
theorem dL_law_20 : decode mL_law.2.1 20 = .ok (.arraylength, 1) := by decide +kernel
theorem dL_law_21 : decode mL_law.2.1 21 = .ok (.iconst 5, 1) := by decide +kernel
theorem dL_law_22 : decode mL_law.2.1 22 = .ok (.isub, 1) := by decide +kernel
theorem dL_law_23 : decode mL_law.2.1 23 = .ok (.if_icmp .gt 1131, 3) := by decide +kernel
theorem dL_law_26 : decode mL_law.2.1 26 = .ok (.aload_n 0, 1) := by decide +kernel
theorem dL_law_27 : decode mL_law.2.1 27 = .ok (.iload_n 3, 1) := by decide +kernel
theorem dL_law_28 : decode mL_law.2.1 28 = .ok (.iaload, 1) := by decide +kernel
theorem dL_law_29 : decode mL_law.2.1 29 = .ok (.bipush 31, 2) := by decide +kernel
theorem dL_law_31 : decode mL_law.2.1 31 = .ok (.iand, 1) := by decide +kernel
theorem dL_law_32 : decode mL_law.2.1 32 = .ok (.tableswitch 1116 0 29 #[136, 149, 182, 225, 248, 281, 314, 357, 400, 453, 476, 509, 532, 565, 588, 601, 634, 657, 670, 693, 716, 759, 802, 845, 898, 941, 964, 1007, 1050, 1093], 136) := by decide +kernel
theorem dL_law_168 : decode mL_law.2.1 168 = .ok (.aload_n 1, 1) := by decide +kernel
theorem dL_law_169 : decode mL_law.2.1 169 = .ok (.invokevirtual 13, 3) := by decide +kernel
theorem dL_law_172 : decode mL_law.2.1 172 = .ok (.aload_n 2, 1) := by decide +kernel
theorem dL_law_173 : decode mL_law.2.1 173 = .ok (.invokevirtual 17, 3) := by decide +kernel
theorem dL_law_176 : decode mL_law.2.1 176 = .ok (.if_icmp .eq 972, 3) := by decide +kernel
theorem dL_law_179 : decode mL_law.2.1 179 = .ok (.iconst 0, 1) := by decide +kernel
theorem dL_law_180 : decode mL_law.2.1 180 = .ok (.ireturn, 1) := by decide +kernel
theorem dL_law_181 : decode mL_law.2.1 181 = .ok (.aload_n 1, 1) := by decide +kernel
theorem dL_law_182 : decode mL_law.2.1 182 = .ok (.aload_n 0, 1) := by decide +kernel
theorem dL_law_183 : decode mL_law.2.1 183 = .ok (.iload_n 3, 1) := by decide +kernel
theorem dL_law_184 : decode mL_law.2.1 184 = .ok (.iconst 1, 1) := by decide +kernel
theorem dL_law_185 : decode mL_law.2.1 185 = .ok (.iadd, 1) := by decide +kernel
theorem dL_law_186 : decode mL_law.2.1 186 = .ok (.iaload, 1) := by decide +kernel
theorem dL_law_187 : decode mL_law.2.1 187 = .ok (.aload_n 0, 1) := by decide +kernel
theorem dL_law_188 : decode mL_law.2.1 188 = .ok (.iload_n 3, 1) := by decide +kernel
theorem dL_law_189 : decode mL_law.2.1 189 = .ok (.iconst 2, 1) := by decide +kernel
theorem dL_law_190 : decode mL_law.2.1 190 = .ok (.iadd, 1) := by decide +kernel
theorem dL_law_191 : decode mL_law.2.1 191 = .ok (.iaload, 1) := by decide +kernel
theorem dL_law_192 : decode mL_law.2.1 192 = .ok (.invokevirtual 18, 3) := by decide +kernel
theorem dL_law_195 : decode mL_law.2.1 195 = .ok (.aload_n 2, 1) := by decide +kernel
theorem dL_law_196 : decode mL_law.2.1 196 = .ok (.aload_n 0, 1) := by decide +kernel
theorem dL_law_197 : decode mL_law.2.1 197 = .ok (.iload_n 3, 1) := by decide +kernel
theorem dL_law_198 : decode mL_law.2.1 198 = .ok (.iconst 1, 1) := by decide +kernel
theorem dL_law_199 : decode mL_law.2.1 199 = .ok (.iadd, 1) := by decide +kernel
theorem dL_law_200 : decode mL_law.2.1 200 = .ok (.iaload, 1) := by decide +kernel
theorem dL_law_201 : decode mL_law.2.1 201 = .ok (.aload_n 0, 1) := by decide +kernel
theorem dL_law_202 : decode mL_law.2.1 202 = .ok (.iload_n 3, 1) := by decide +kernel
theorem dL_law_203 : decode mL_law.2.1 203 = .ok (.iconst 2, 1) := by decide +kernel
theorem dL_law_204 : decode mL_law.2.1 204 = .ok (.iadd, 1) := by decide +kernel
theorem dL_law_205 : decode mL_law.2.1 205 = .ok (.iaload, 1) := by decide +kernel
theorem dL_law_206 : decode mL_law.2.1 206 = .ok (.invokevirtual 22, 3) := by decide +kernel
theorem dL_law_209 : decode mL_law.2.1 209 = .ok (.if_icmp .eq 939, 3) := by decide +kernel
theorem dL_law_212 : decode mL_law.2.1 212 = .ok (.iconst 0, 1) := by decide +kernel
theorem dL_law_213 : decode mL_law.2.1 213 = .ok (.ireturn, 1) := by decide +kernel
theorem dL_law_214 : decode mL_law.2.1 214 = .ok (.aload_n 1, 1) := by decide +kernel
theorem dL_law_215 : decode mL_law.2.1 215 = .ok (.aload_n 0, 1) := by decide +kernel
theorem dL_law_216 : decode mL_law.2.1 216 = .ok (.iload_n 3, 1) := by decide +kernel
theorem dL_law_217 : decode mL_law.2.1 217 = .ok (.iconst 1, 1) := by decide +kernel
theorem dL_law_218 : decode mL_law.2.1 218 = .ok (.iadd, 1) := by decide +kernel
theorem dL_law_219 : decode mL_law.2.1 219 = .ok (.iaload, 1) := by decide +kernel
theorem dL_law_220 : decode mL_law.2.1 220 = .ok (.aload_n 0, 1) := by decide +kernel
theorem dL_law_221 : decode mL_law.2.1 221 = .ok (.iload_n 3, 1) := by decide +kernel
theorem dL_law_222 : decode mL_law.2.1 222 = .ok (.iconst 2, 1) := by decide +kernel
theorem dL_law_223 : decode mL_law.2.1 223 = .ok (.iadd, 1) := by decide +kernel
theorem dL_law_224 : decode mL_law.2.1 224 = .ok (.iaload, 1) := by decide +kernel
theorem dL_law_225 : decode mL_law.2.1 225 = .ok (.aload_n 0, 1) := by decide +kernel
theorem dL_law_226 : decode mL_law.2.1 226 = .ok (.iload_n 3, 1) := by decide +kernel
theorem dL_law_227 : decode mL_law.2.1 227 = .ok (.iconst 3, 1) := by decide +kernel
theorem dL_law_228 : decode mL_law.2.1 228 = .ok (.iadd, 1) := by decide +kernel
theorem dL_law_229 : decode mL_law.2.1 229 = .ok (.iaload, 1) := by decide +kernel
theorem dL_law_230 : decode mL_law.2.1 230 = .ok (.invokevirtual 23, 3) := by decide +kernel
theorem dL_law_233 : decode mL_law.2.1 233 = .ok (.aload_n 2, 1) := by decide +kernel
theorem dL_law_234 : decode mL_law.2.1 234 = .ok (.aload_n 0, 1) := by decide +kernel
theorem dL_law_235 : decode mL_law.2.1 235 = .ok (.iload_n 3, 1) := by decide +kernel
theorem dL_law_236 : decode mL_law.2.1 236 = .ok (.iconst 1, 1) := by decide +kernel
theorem dL_law_237 : decode mL_law.2.1 237 = .ok (.iadd, 1) := by decide +kernel
theorem dL_law_238 : decode mL_law.2.1 238 = .ok (.iaload, 1) := by decide +kernel
theorem dL_law_239 : decode mL_law.2.1 239 = .ok (.aload_n 0, 1) := by decide +kernel
theorem dL_law_240 : decode mL_law.2.1 240 = .ok (.iload_n 3, 1) := by decide +kernel
theorem dL_law_241 : decode mL_law.2.1 241 = .ok (.iconst 2, 1) := by decide +kernel
theorem dL_law_242 : decode mL_law.2.1 242 = .ok (.iadd, 1) := by decide +kernel
theorem dL_law_243 : decode mL_law.2.1 243 = .ok (.iaload, 1) := by decide +kernel
theorem dL_law_244 : decode mL_law.2.1 244 = .ok (.aload_n 0, 1) := by decide +kernel
theorem dL_law_245 : decode mL_law.2.1 245 = .ok (.iload_n 3, 1) := by decide +kernel
theorem dL_law_246 : decode mL_law.2.1 246 = .ok (.iconst 3, 1) := by decide +kernel
theorem dL_law_247 : decode mL_law.2.1 247 = .ok (.iadd, 1) := by decide +kernel
theorem dL_law_248 : decode mL_law.2.1 248 = .ok (.iaload, 1) := by decide +kernel
theorem dL_law_249 : decode mL_law.2.1 249 = .ok (.invokevirtual 27, 3) := by decide +kernel
theorem dL_law_252 : decode mL_law.2.1 252 = .ok (.if_icmp .eq 896, 3) := by decide +kernel
theorem dL_law_255 : decode mL_law.2.1 255 = .ok (.iconst 0, 1) := by decide +kernel
theorem dL_law_256 : decode mL_law.2.1 256 = .ok (.ireturn, 1) := by decide +kernel
theorem dL_law_257 : decode mL_law.2.1 257 = .ok (.aload_n 1, 1) := by decide +kernel
theorem dL_law_258 : decode mL_law.2.1 258 = .ok (.aload_n 0, 1) := by decide +kernel
theorem dL_law_259 : decode mL_law.2.1 259 = .ok (.iload_n 3, 1) := by decide +kernel
theorem dL_law_260 : decode mL_law.2.1 260 = .ok (.iconst 1, 1) := by decide +kernel
theorem dL_law_261 : decode mL_law.2.1 261 = .ok (.iadd, 1) := by decide +kernel
theorem dL_law_262 : decode mL_law.2.1 262 = .ok (.iaload, 1) := by decide +kernel
theorem dL_law_263 : decode mL_law.2.1 263 = .ok (.invokevirtual 28, 3) := by decide +kernel
theorem dL_law_266 : decode mL_law.2.1 266 = .ok (.aload_n 2, 1) := by decide +kernel
theorem dL_law_267 : decode mL_law.2.1 267 = .ok (.aload_n 0, 1) := by decide +kernel
theorem dL_law_268 : decode mL_law.2.1 268 = .ok (.iload_n 3, 1) := by decide +kernel
theorem dL_law_269 : decode mL_law.2.1 269 = .ok (.iconst 1, 1) := by decide +kernel
theorem dL_law_270 : decode mL_law.2.1 270 = .ok (.iadd, 1) := by decide +kernel
theorem dL_law_271 : decode mL_law.2.1 271 = .ok (.iaload, 1) := by decide +kernel
theorem dL_law_272 : decode mL_law.2.1 272 = .ok (.invokevirtual 32, 3) := by decide +kernel
theorem dL_law_275 : decode mL_law.2.1 275 = .ok (.if_icmp .eq 873, 3) := by decide +kernel
theorem dL_law_278 : decode mL_law.2.1 278 = .ok (.iconst 0, 1) := by decide +kernel
theorem dL_law_279 : decode mL_law.2.1 279 = .ok (.ireturn, 1) := by decide +kernel
theorem dL_law_280 : decode mL_law.2.1 280 = .ok (.aload_n 1, 1) := by decide +kernel
theorem dL_law_281 : decode mL_law.2.1 281 = .ok (.aload_n 0, 1) := by decide +kernel
theorem dL_law_282 : decode mL_law.2.1 282 = .ok (.iload_n 3, 1) := by decide +kernel
theorem dL_law_283 : decode mL_law.2.1 283 = .ok (.iconst 1, 1) := by decide +kernel
theorem dL_law_284 : decode mL_law.2.1 284 = .ok (.iadd, 1) := by decide +kernel
theorem dL_law_285 : decode mL_law.2.1 285 = .ok (.iaload, 1) := by decide +kernel
theorem dL_law_286 : decode mL_law.2.1 286 = .ok (.aload_n 0, 1) := by decide +kernel
theorem dL_law_287 : decode mL_law.2.1 287 = .ok (.iload_n 3, 1) := by decide +kernel
theorem dL_law_288 : decode mL_law.2.1 288 = .ok (.iconst 2, 1) := by decide +kernel
theorem dL_law_289 : decode mL_law.2.1 289 = .ok (.iadd, 1) := by decide +kernel
theorem dL_law_290 : decode mL_law.2.1 290 = .ok (.iaload, 1) := by decide +kernel
theorem dL_law_291 : decode mL_law.2.1 291 = .ok (.invokevirtual 33, 3) := by decide +kernel
theorem dL_law_294 : decode mL_law.2.1 294 = .ok (.aload_n 2, 1) := by decide +kernel
theorem dL_law_295 : decode mL_law.2.1 295 = .ok (.aload_n 0, 1) := by decide +kernel
theorem dL_law_296 : decode mL_law.2.1 296 = .ok (.iload_n 3, 1) := by decide +kernel
theorem dL_law_297 : decode mL_law.2.1 297 = .ok (.iconst 1, 1) := by decide +kernel
theorem dL_law_298 : decode mL_law.2.1 298 = .ok (.iadd, 1) := by decide +kernel
theorem dL_law_299 : decode mL_law.2.1 299 = .ok (.iaload, 1) := by decide +kernel
theorem dL_law_300 : decode mL_law.2.1 300 = .ok (.aload_n 0, 1) := by decide +kernel
theorem dL_law_301 : decode mL_law.2.1 301 = .ok (.iload_n 3, 1) := by decide +kernel
theorem dL_law_302 : decode mL_law.2.1 302 = .ok (.iconst 2, 1) := by decide +kernel
theorem dL_law_303 : decode mL_law.2.1 303 = .ok (.iadd, 1) := by decide +kernel
theorem dL_law_304 : decode mL_law.2.1 304 = .ok (.iaload, 1) := by decide +kernel
theorem dL_law_305 : decode mL_law.2.1 305 = .ok (.invokevirtual 36, 3) := by decide +kernel
theorem dL_law_308 : decode mL_law.2.1 308 = .ok (.if_icmp .eq 840, 3) := by decide +kernel
theorem dL_law_311 : decode mL_law.2.1 311 = .ok (.iconst 0, 1) := by decide +kernel
theorem dL_law_312 : decode mL_law.2.1 312 = .ok (.ireturn, 1) := by decide +kernel
theorem dL_law_313 : decode mL_law.2.1 313 = .ok (.aload_n 1, 1) := by decide +kernel
theorem dL_law_314 : decode mL_law.2.1 314 = .ok (.aload_n 0, 1) := by decide +kernel
theorem dL_law_315 : decode mL_law.2.1 315 = .ok (.iload_n 3, 1) := by decide +kernel
theorem dL_law_316 : decode mL_law.2.1 316 = .ok (.iconst 1, 1) := by decide +kernel
theorem dL_law_317 : decode mL_law.2.1 317 = .ok (.iadd, 1) := by decide +kernel
theorem dL_law_318 : decode mL_law.2.1 318 = .ok (.iaload, 1) := by decide +kernel
theorem dL_law_319 : decode mL_law.2.1 319 = .ok (.aload_n 0, 1) := by decide +kernel
theorem dL_law_320 : decode mL_law.2.1 320 = .ok (.iload_n 3, 1) := by decide +kernel
theorem dL_law_321 : decode mL_law.2.1 321 = .ok (.iconst 2, 1) := by decide +kernel
theorem dL_law_322 : decode mL_law.2.1 322 = .ok (.iadd, 1) := by decide +kernel
theorem dL_law_323 : decode mL_law.2.1 323 = .ok (.iaload, 1) := by decide +kernel
theorem dL_law_324 : decode mL_law.2.1 324 = .ok (.invokevirtual 37, 3) := by decide +kernel
theorem dL_law_327 : decode mL_law.2.1 327 = .ok (.aload_n 2, 1) := by decide +kernel
theorem dL_law_328 : decode mL_law.2.1 328 = .ok (.aload_n 0, 1) := by decide +kernel
theorem dL_law_329 : decode mL_law.2.1 329 = .ok (.iload_n 3, 1) := by decide +kernel
theorem dL_law_330 : decode mL_law.2.1 330 = .ok (.iconst 1, 1) := by decide +kernel
theorem dL_law_331 : decode mL_law.2.1 331 = .ok (.iadd, 1) := by decide +kernel
theorem dL_law_332 : decode mL_law.2.1 332 = .ok (.iaload, 1) := by decide +kernel
theorem dL_law_333 : decode mL_law.2.1 333 = .ok (.aload_n 0, 1) := by decide +kernel
theorem dL_law_334 : decode mL_law.2.1 334 = .ok (.iload_n 3, 1) := by decide +kernel
theorem dL_law_335 : decode mL_law.2.1 335 = .ok (.iconst 2, 1) := by decide +kernel
theorem dL_law_336 : decode mL_law.2.1 336 = .ok (.iadd, 1) := by decide +kernel
theorem dL_law_337 : decode mL_law.2.1 337 = .ok (.iaload, 1) := by decide +kernel
theorem dL_law_338 : decode mL_law.2.1 338 = .ok (.invokevirtual 40, 3) := by decide +kernel
theorem dL_law_341 : decode mL_law.2.1 341 = .ok (.if_icmp .eq 807, 3) := by decide +kernel
theorem dL_law_344 : decode mL_law.2.1 344 = .ok (.iconst 0, 1) := by decide +kernel
theorem dL_law_345 : decode mL_law.2.1 345 = .ok (.ireturn, 1) := by decide +kernel
theorem dL_law_346 : decode mL_law.2.1 346 = .ok (.aload_n 1, 1) := by decide +kernel
theorem dL_law_347 : decode mL_law.2.1 347 = .ok (.aload_n 0, 1) := by decide +kernel
theorem dL_law_348 : decode mL_law.2.1 348 = .ok (.iload_n 3, 1) := by decide +kernel
theorem dL_law_349 : decode mL_law.2.1 349 = .ok (.iconst 1, 1) := by decide +kernel
theorem dL_law_350 : decode mL_law.2.1 350 = .ok (.iadd, 1) := by decide +kernel
theorem dL_law_351 : decode mL_law.2.1 351 = .ok (.iaload, 1) := by decide +kernel
theorem dL_law_352 : decode mL_law.2.1 352 = .ok (.aload_n 0, 1) := by decide +kernel
theorem dL_law_353 : decode mL_law.2.1 353 = .ok (.iload_n 3, 1) := by decide +kernel
theorem dL_law_354 : decode mL_law.2.1 354 = .ok (.iconst 2, 1) := by decide +kernel
theorem dL_law_355 : decode mL_law.2.1 355 = .ok (.iadd, 1) := by decide +kernel
theorem dL_law_356 : decode mL_law.2.1 356 = .ok (.iaload, 1) := by decide +kernel
theorem dL_law_357 : decode mL_law.2.1 357 = .ok (.aload_n 0, 1) := by decide +kernel
theorem dL_law_358 : decode mL_law.2.1 358 = .ok (.iload_n 3, 1) := by decide +kernel
theorem dL_law_359 : decode mL_law.2.1 359 = .ok (.iconst 3, 1) := by decide +kernel
theorem dL_law_360 : decode mL_law.2.1 360 = .ok (.iadd, 1) := by decide +kernel
theorem dL_law_361 : decode mL_law.2.1 361 = .ok (.iaload, 1) := by decide +kernel
theorem dL_law_362 : decode mL_law.2.1 362 = .ok (.invokevirtual 41, 3) := by decide +kernel
theorem dL_law_365 : decode mL_law.2.1 365 = .ok (.aload_n 2, 1) := by decide +kernel
theorem dL_law_366 : decode mL_law.2.1 366 = .ok (.aload_n 0, 1) := by decide +kernel
theorem dL_law_367 : decode mL_law.2.1 367 = .ok (.iload_n 3, 1) := by decide +kernel
theorem dL_law_368 : decode mL_law.2.1 368 = .ok (.iconst 1, 1) := by decide +kernel
theorem dL_law_369 : decode mL_law.2.1 369 = .ok (.iadd, 1) := by decide +kernel
theorem dL_law_370 : decode mL_law.2.1 370 = .ok (.iaload, 1) := by decide +kernel
theorem dL_law_371 : decode mL_law.2.1 371 = .ok (.aload_n 0, 1) := by decide +kernel
theorem dL_law_372 : decode mL_law.2.1 372 = .ok (.iload_n 3, 1) := by decide +kernel
theorem dL_law_373 : decode mL_law.2.1 373 = .ok (.iconst 2, 1) := by decide +kernel
theorem dL_law_374 : decode mL_law.2.1 374 = .ok (.iadd, 1) := by decide +kernel
theorem dL_law_375 : decode mL_law.2.1 375 = .ok (.iaload, 1) := by decide +kernel
theorem dL_law_376 : decode mL_law.2.1 376 = .ok (.aload_n 0, 1) := by decide +kernel
theorem dL_law_377 : decode mL_law.2.1 377 = .ok (.iload_n 3, 1) := by decide +kernel
theorem dL_law_378 : decode mL_law.2.1 378 = .ok (.iconst 3, 1) := by decide +kernel
theorem dL_law_379 : decode mL_law.2.1 379 = .ok (.iadd, 1) := by decide +kernel
theorem dL_law_380 : decode mL_law.2.1 380 = .ok (.iaload, 1) := by decide +kernel
theorem dL_law_381 : decode mL_law.2.1 381 = .ok (.invokevirtual 44, 3) := by decide +kernel
theorem dL_law_384 : decode mL_law.2.1 384 = .ok (.if_icmp .eq 764, 3) := by decide +kernel
theorem dL_law_387 : decode mL_law.2.1 387 = .ok (.iconst 0, 1) := by decide +kernel
theorem dL_law_388 : decode mL_law.2.1 388 = .ok (.ireturn, 1) := by decide +kernel
theorem dL_law_389 : decode mL_law.2.1 389 = .ok (.aload_n 1, 1) := by decide +kernel
theorem dL_law_390 : decode mL_law.2.1 390 = .ok (.aload_n 0, 1) := by decide +kernel
theorem dL_law_391 : decode mL_law.2.1 391 = .ok (.iload_n 3, 1) := by decide +kernel
theorem dL_law_392 : decode mL_law.2.1 392 = .ok (.iconst 1, 1) := by decide +kernel
theorem dL_law_393 : decode mL_law.2.1 393 = .ok (.iadd, 1) := by decide +kernel
theorem dL_law_394 : decode mL_law.2.1 394 = .ok (.iaload, 1) := by decide +kernel
theorem dL_law_395 : decode mL_law.2.1 395 = .ok (.aload_n 0, 1) := by decide +kernel
theorem dL_law_396 : decode mL_law.2.1 396 = .ok (.iload_n 3, 1) := by decide +kernel
theorem dL_law_397 : decode mL_law.2.1 397 = .ok (.iconst 2, 1) := by decide +kernel
theorem dL_law_398 : decode mL_law.2.1 398 = .ok (.iadd, 1) := by decide +kernel
theorem dL_law_399 : decode mL_law.2.1 399 = .ok (.iaload, 1) := by decide +kernel
theorem dL_law_400 : decode mL_law.2.1 400 = .ok (.aload_n 0, 1) := by decide +kernel
theorem dL_law_401 : decode mL_law.2.1 401 = .ok (.iload_n 3, 1) := by decide +kernel
theorem dL_law_402 : decode mL_law.2.1 402 = .ok (.iconst 3, 1) := by decide +kernel
theorem dL_law_403 : decode mL_law.2.1 403 = .ok (.iadd, 1) := by decide +kernel
theorem dL_law_404 : decode mL_law.2.1 404 = .ok (.iaload, 1) := by decide +kernel
theorem dL_law_405 : decode mL_law.2.1 405 = .ok (.invokevirtual 45, 3) := by decide +kernel
theorem dL_law_408 : decode mL_law.2.1 408 = .ok (.aload_n 2, 1) := by decide +kernel
theorem dL_law_409 : decode mL_law.2.1 409 = .ok (.aload_n 0, 1) := by decide +kernel
theorem dL_law_410 : decode mL_law.2.1 410 = .ok (.iload_n 3, 1) := by decide +kernel
theorem dL_law_411 : decode mL_law.2.1 411 = .ok (.iconst 1, 1) := by decide +kernel
theorem dL_law_412 : decode mL_law.2.1 412 = .ok (.iadd, 1) := by decide +kernel
theorem dL_law_413 : decode mL_law.2.1 413 = .ok (.iaload, 1) := by decide +kernel
theorem dL_law_414 : decode mL_law.2.1 414 = .ok (.aload_n 0, 1) := by decide +kernel
theorem dL_law_415 : decode mL_law.2.1 415 = .ok (.iload_n 3, 1) := by decide +kernel
theorem dL_law_416 : decode mL_law.2.1 416 = .ok (.iconst 2, 1) := by decide +kernel
theorem dL_law_417 : decode mL_law.2.1 417 = .ok (.iadd, 1) := by decide +kernel
theorem dL_law_418 : decode mL_law.2.1 418 = .ok (.iaload, 1) := by decide +kernel
theorem dL_law_419 : decode mL_law.2.1 419 = .ok (.aload_n 0, 1) := by decide +kernel
theorem dL_law_420 : decode mL_law.2.1 420 = .ok (.iload_n 3, 1) := by decide +kernel
theorem dL_law_421 : decode mL_law.2.1 421 = .ok (.iconst 3, 1) := by decide +kernel
theorem dL_law_422 : decode mL_law.2.1 422 = .ok (.iadd, 1) := by decide +kernel
theorem dL_law_423 : decode mL_law.2.1 423 = .ok (.iaload, 1) := by decide +kernel
theorem dL_law_424 : decode mL_law.2.1 424 = .ok (.invokevirtual 48, 3) := by decide +kernel
theorem dL_law_427 : decode mL_law.2.1 427 = .ok (.if_icmp .eq 721, 3) := by decide +kernel
theorem dL_law_430 : decode mL_law.2.1 430 = .ok (.iconst 0, 1) := by decide +kernel
theorem dL_law_431 : decode mL_law.2.1 431 = .ok (.ireturn, 1) := by decide +kernel
theorem dL_law_432 : decode mL_law.2.1 432 = .ok (.aload_n 1, 1) := by decide +kernel
theorem dL_law_433 : decode mL_law.2.1 433 = .ok (.aload_n 0, 1) := by decide +kernel
theorem dL_law_434 : decode mL_law.2.1 434 = .ok (.iload_n 3, 1) := by decide +kernel
theorem dL_law_435 : decode mL_law.2.1 435 = .ok (.iconst 1, 1) := by decide +kernel
theorem dL_law_436 : decode mL_law.2.1 436 = .ok (.iadd, 1) := by decide +kernel
theorem dL_law_437 : decode mL_law.2.1 437 = .ok (.iaload, 1) := by decide +kernel
theorem dL_law_438 : decode mL_law.2.1 438 = .ok (.aload_n 0, 1) := by decide +kernel
theorem dL_law_439 : decode mL_law.2.1 439 = .ok (.iload_n 3, 1) := by decide +kernel
theorem dL_law_440 : decode mL_law.2.1 440 = .ok (.iconst 2, 1) := by decide +kernel
theorem dL_law_441 : decode mL_law.2.1 441 = .ok (.iadd, 1) := by decide +kernel
theorem dL_law_442 : decode mL_law.2.1 442 = .ok (.iaload, 1) := by decide +kernel
theorem dL_law_443 : decode mL_law.2.1 443 = .ok (.aload_n 0, 1) := by decide +kernel
theorem dL_law_444 : decode mL_law.2.1 444 = .ok (.iload_n 3, 1) := by decide +kernel
theorem dL_law_445 : decode mL_law.2.1 445 = .ok (.iconst 3, 1) := by decide +kernel
theorem dL_law_446 : decode mL_law.2.1 446 = .ok (.iadd, 1) := by decide +kernel
theorem dL_law_447 : decode mL_law.2.1 447 = .ok (.iaload, 1) := by decide +kernel
theorem dL_law_448 : decode mL_law.2.1 448 = .ok (.aload_n 0, 1) := by decide +kernel
theorem dL_law_449 : decode mL_law.2.1 449 = .ok (.iload_n 3, 1) := by decide +kernel
theorem dL_law_450 : decode mL_law.2.1 450 = .ok (.iconst 4, 1) := by decide +kernel
theorem dL_law_451 : decode mL_law.2.1 451 = .ok (.iadd, 1) := by decide +kernel
theorem dL_law_452 : decode mL_law.2.1 452 = .ok (.iaload, 1) := by decide +kernel
theorem dL_law_453 : decode mL_law.2.1 453 = .ok (.invokevirtual 49, 3) := by decide +kernel
theorem dL_law_456 : decode mL_law.2.1 456 = .ok (.aload_n 2, 1) := by decide +kernel
theorem dL_law_457 : decode mL_law.2.1 457 = .ok (.aload_n 0, 1) := by decide +kernel
theorem dL_law_458 : decode mL_law.2.1 458 = .ok (.iload_n 3, 1) := by decide +kernel
theorem dL_law_459 : decode mL_law.2.1 459 = .ok (.iconst 1, 1) := by decide +kernel
theorem dL_law_460 : decode mL_law.2.1 460 = .ok (.iadd, 1) := by decide +kernel
theorem dL_law_461 : decode mL_law.2.1 461 = .ok (.iaload, 1) := by decide +kernel
theorem dL_law_462 : decode mL_law.2.1 462 = .ok (.aload_n 0, 1) := by decide +kernel
theorem dL_law_463 : decode mL_law.2.1 463 = .ok (.iload_n 3, 1) := by decide +kernel
theorem dL_law_464 : decode mL_law.2.1 464 = .ok (.iconst 2, 1) := by decide +kernel
theorem dL_law_465 : decode mL_law.2.1 465 = .ok (.iadd, 1) := by decide +kernel
theorem dL_law_466 : decode mL_law.2.1 466 = .ok (.iaload, 1) := by decide +kernel
theorem dL_law_467 : decode mL_law.2.1 467 = .ok (.aload_n 0, 1) := by decide +kernel
theorem dL_law_468 : decode mL_law.2.1 468 = .ok (.iload_n 3, 1) := by decide +kernel
theorem dL_law_469 : decode mL_law.2.1 469 = .ok (.iconst 3, 1) := by decide +kernel
theorem dL_law_470 : decode mL_law.2.1 470 = .ok (.iadd, 1) := by decide +kernel
theorem dL_law_471 : decode mL_law.2.1 471 = .ok (.iaload, 1) := by decide +kernel
theorem dL_law_472 : decode mL_law.2.1 472 = .ok (.aload_n 0, 1) := by decide +kernel
theorem dL_law_473 : decode mL_law.2.1 473 = .ok (.iload_n 3, 1) := by decide +kernel
theorem dL_law_474 : decode mL_law.2.1 474 = .ok (.iconst 4, 1) := by decide +kernel
theorem dL_law_475 : decode mL_law.2.1 475 = .ok (.iadd, 1) := by decide +kernel
theorem dL_law_476 : decode mL_law.2.1 476 = .ok (.iaload, 1) := by decide +kernel
theorem dL_law_477 : decode mL_law.2.1 477 = .ok (.invokevirtual 53, 3) := by decide +kernel
theorem dL_law_480 : decode mL_law.2.1 480 = .ok (.if_icmp .eq 668, 3) := by decide +kernel
theorem dL_law_483 : decode mL_law.2.1 483 = .ok (.iconst 0, 1) := by decide +kernel
theorem dL_law_484 : decode mL_law.2.1 484 = .ok (.ireturn, 1) := by decide +kernel
theorem dL_law_485 : decode mL_law.2.1 485 = .ok (.aload_n 1, 1) := by decide +kernel
theorem dL_law_486 : decode mL_law.2.1 486 = .ok (.aload_n 0, 1) := by decide +kernel
theorem dL_law_487 : decode mL_law.2.1 487 = .ok (.iload_n 3, 1) := by decide +kernel
theorem dL_law_488 : decode mL_law.2.1 488 = .ok (.iconst 1, 1) := by decide +kernel
theorem dL_law_489 : decode mL_law.2.1 489 = .ok (.iadd, 1) := by decide +kernel
theorem dL_law_490 : decode mL_law.2.1 490 = .ok (.iaload, 1) := by decide +kernel
theorem dL_law_491 : decode mL_law.2.1 491 = .ok (.invokevirtual 54, 3) := by decide +kernel
theorem dL_law_494 : decode mL_law.2.1 494 = .ok (.aload_n 2, 1) := by decide +kernel
theorem dL_law_495 : decode mL_law.2.1 495 = .ok (.aload_n 0, 1) := by decide +kernel
theorem dL_law_496 : decode mL_law.2.1 496 = .ok (.iload_n 3, 1) := by decide +kernel
theorem dL_law_497 : decode mL_law.2.1 497 = .ok (.iconst 1, 1) := by decide +kernel
theorem dL_law_498 : decode mL_law.2.1 498 = .ok (.iadd, 1) := by decide +kernel
theorem dL_law_499 : decode mL_law.2.1 499 = .ok (.iaload, 1) := by decide +kernel
theorem dL_law_500 : decode mL_law.2.1 500 = .ok (.invokevirtual 57, 3) := by decide +kernel
theorem dL_law_503 : decode mL_law.2.1 503 = .ok (.if_icmp .eq 645, 3) := by decide +kernel
theorem dL_law_506 : decode mL_law.2.1 506 = .ok (.iconst 0, 1) := by decide +kernel
theorem dL_law_507 : decode mL_law.2.1 507 = .ok (.ireturn, 1) := by decide +kernel
theorem dL_law_508 : decode mL_law.2.1 508 = .ok (.aload_n 1, 1) := by decide +kernel
theorem dL_law_509 : decode mL_law.2.1 509 = .ok (.aload_n 0, 1) := by decide +kernel
theorem dL_law_510 : decode mL_law.2.1 510 = .ok (.iload_n 3, 1) := by decide +kernel
theorem dL_law_511 : decode mL_law.2.1 511 = .ok (.iconst 1, 1) := by decide +kernel
theorem dL_law_512 : decode mL_law.2.1 512 = .ok (.iadd, 1) := by decide +kernel
theorem dL_law_513 : decode mL_law.2.1 513 = .ok (.iaload, 1) := by decide +kernel
theorem dL_law_514 : decode mL_law.2.1 514 = .ok (.aload_n 0, 1) := by decide +kernel
theorem dL_law_515 : decode mL_law.2.1 515 = .ok (.iload_n 3, 1) := by decide +kernel
theorem dL_law_516 : decode mL_law.2.1 516 = .ok (.iconst 2, 1) := by decide +kernel
theorem dL_law_517 : decode mL_law.2.1 517 = .ok (.iadd, 1) := by decide +kernel
theorem dL_law_518 : decode mL_law.2.1 518 = .ok (.iaload, 1) := by decide +kernel
theorem dL_law_519 : decode mL_law.2.1 519 = .ok (.invokevirtual 58, 3) := by decide +kernel
theorem dL_law_522 : decode mL_law.2.1 522 = .ok (.aload_n 2, 1) := by decide +kernel
theorem dL_law_523 : decode mL_law.2.1 523 = .ok (.aload_n 0, 1) := by decide +kernel
theorem dL_law_524 : decode mL_law.2.1 524 = .ok (.iload_n 3, 1) := by decide +kernel
theorem dL_law_525 : decode mL_law.2.1 525 = .ok (.iconst 1, 1) := by decide +kernel
theorem dL_law_526 : decode mL_law.2.1 526 = .ok (.iadd, 1) := by decide +kernel
theorem dL_law_527 : decode mL_law.2.1 527 = .ok (.iaload, 1) := by decide +kernel
theorem dL_law_528 : decode mL_law.2.1 528 = .ok (.aload_n 0, 1) := by decide +kernel
theorem dL_law_529 : decode mL_law.2.1 529 = .ok (.iload_n 3, 1) := by decide +kernel
theorem dL_law_530 : decode mL_law.2.1 530 = .ok (.iconst 2, 1) := by decide +kernel
theorem dL_law_531 : decode mL_law.2.1 531 = .ok (.iadd, 1) := by decide +kernel
theorem dL_law_532 : decode mL_law.2.1 532 = .ok (.iaload, 1) := by decide +kernel
theorem dL_law_533 : decode mL_law.2.1 533 = .ok (.invokevirtual 61, 3) := by decide +kernel
theorem dL_law_536 : decode mL_law.2.1 536 = .ok (.if_icmp .eq 612, 3) := by decide +kernel
theorem dL_law_539 : decode mL_law.2.1 539 = .ok (.iconst 0, 1) := by decide +kernel
theorem dL_law_540 : decode mL_law.2.1 540 = .ok (.ireturn, 1) := by decide +kernel
theorem dL_law_541 : decode mL_law.2.1 541 = .ok (.aload_n 1, 1) := by decide +kernel
theorem dL_law_542 : decode mL_law.2.1 542 = .ok (.aload_n 0, 1) := by decide +kernel
theorem dL_law_543 : decode mL_law.2.1 543 = .ok (.iload_n 3, 1) := by decide +kernel
theorem dL_law_544 : decode mL_law.2.1 544 = .ok (.iconst 1, 1) := by decide +kernel
theorem dL_law_545 : decode mL_law.2.1 545 = .ok (.iadd, 1) := by decide +kernel
theorem dL_law_546 : decode mL_law.2.1 546 = .ok (.iaload, 1) := by decide +kernel
theorem dL_law_547 : decode mL_law.2.1 547 = .ok (.invokevirtual 62, 3) := by decide +kernel
theorem dL_law_550 : decode mL_law.2.1 550 = .ok (.aload_n 2, 1) := by decide +kernel
theorem dL_law_551 : decode mL_law.2.1 551 = .ok (.aload_n 0, 1) := by decide +kernel
theorem dL_law_552 : decode mL_law.2.1 552 = .ok (.iload_n 3, 1) := by decide +kernel
theorem dL_law_553 : decode mL_law.2.1 553 = .ok (.iconst 1, 1) := by decide +kernel
theorem dL_law_554 : decode mL_law.2.1 554 = .ok (.iadd, 1) := by decide +kernel
theorem dL_law_555 : decode mL_law.2.1 555 = .ok (.iaload, 1) := by decide +kernel
theorem dL_law_556 : decode mL_law.2.1 556 = .ok (.invokevirtual 65, 3) := by decide +kernel
theorem dL_law_559 : decode mL_law.2.1 559 = .ok (.if_icmp .eq 589, 3) := by decide +kernel
theorem dL_law_562 : decode mL_law.2.1 562 = .ok (.iconst 0, 1) := by decide +kernel
theorem dL_law_563 : decode mL_law.2.1 563 = .ok (.ireturn, 1) := by decide +kernel
theorem dL_law_564 : decode mL_law.2.1 564 = .ok (.aload_n 1, 1) := by decide +kernel
theorem dL_law_565 : decode mL_law.2.1 565 = .ok (.aload_n 0, 1) := by decide +kernel
theorem dL_law_566 : decode mL_law.2.1 566 = .ok (.iload_n 3, 1) := by decide +kernel
theorem dL_law_567 : decode mL_law.2.1 567 = .ok (.iconst 1, 1) := by decide +kernel
theorem dL_law_568 : decode mL_law.2.1 568 = .ok (.iadd, 1) := by decide +kernel
theorem dL_law_569 : decode mL_law.2.1 569 = .ok (.iaload, 1) := by decide +kernel
theorem dL_law_570 : decode mL_law.2.1 570 = .ok (.aload_n 0, 1) := by decide +kernel
theorem dL_law_571 : decode mL_law.2.1 571 = .ok (.iload_n 3, 1) := by decide +kernel
theorem dL_law_572 : decode mL_law.2.1 572 = .ok (.iconst 2, 1) := by decide +kernel
theorem dL_law_573 : decode mL_law.2.1 573 = .ok (.iadd, 1) := by decide +kernel
theorem dL_law_574 : decode mL_law.2.1 574 = .ok (.iaload, 1) := by decide +kernel
theorem dL_law_575 : decode mL_law.2.1 575 = .ok (.invokevirtual 66, 3) := by decide +kernel
theorem dL_law_578 : decode mL_law.2.1 578 = .ok (.aload_n 2, 1) := by decide +kernel
theorem dL_law_579 : decode mL_law.2.1 579 = .ok (.aload_n 0, 1) := by decide +kernel
theorem dL_law_580 : decode mL_law.2.1 580 = .ok (.iload_n 3, 1) := by decide +kernel
theorem dL_law_581 : decode mL_law.2.1 581 = .ok (.iconst 1, 1) := by decide +kernel
theorem dL_law_582 : decode mL_law.2.1 582 = .ok (.iadd, 1) := by decide +kernel
theorem dL_law_583 : decode mL_law.2.1 583 = .ok (.iaload, 1) := by decide +kernel
theorem dL_law_584 : decode mL_law.2.1 584 = .ok (.aload_n 0, 1) := by decide +kernel
theorem dL_law_585 : decode mL_law.2.1 585 = .ok (.iload_n 3, 1) := by decide +kernel
theorem dL_law_586 : decode mL_law.2.1 586 = .ok (.iconst 2, 1) := by decide +kernel
theorem dL_law_587 : decode mL_law.2.1 587 = .ok (.iadd, 1) := by decide +kernel
theorem dL_law_588 : decode mL_law.2.1 588 = .ok (.iaload, 1) := by decide +kernel
theorem dL_law_589 : decode mL_law.2.1 589 = .ok (.invokevirtual 69, 3) := by decide +kernel
theorem dL_law_592 : decode mL_law.2.1 592 = .ok (.if_icmp .eq 556, 3) := by decide +kernel
theorem dL_law_595 : decode mL_law.2.1 595 = .ok (.iconst 0, 1) := by decide +kernel
theorem dL_law_596 : decode mL_law.2.1 596 = .ok (.ireturn, 1) := by decide +kernel
theorem dL_law_597 : decode mL_law.2.1 597 = .ok (.aload_n 1, 1) := by decide +kernel
theorem dL_law_598 : decode mL_law.2.1 598 = .ok (.aload_n 0, 1) := by decide +kernel
theorem dL_law_599 : decode mL_law.2.1 599 = .ok (.iload_n 3, 1) := by decide +kernel
theorem dL_law_600 : decode mL_law.2.1 600 = .ok (.iconst 1, 1) := by decide +kernel
theorem dL_law_601 : decode mL_law.2.1 601 = .ok (.iadd, 1) := by decide +kernel
theorem dL_law_602 : decode mL_law.2.1 602 = .ok (.iaload, 1) := by decide +kernel
theorem dL_law_603 : decode mL_law.2.1 603 = .ok (.invokevirtual 70, 3) := by decide +kernel
theorem dL_law_606 : decode mL_law.2.1 606 = .ok (.aload_n 2, 1) := by decide +kernel
theorem dL_law_607 : decode mL_law.2.1 607 = .ok (.aload_n 0, 1) := by decide +kernel
theorem dL_law_608 : decode mL_law.2.1 608 = .ok (.iload_n 3, 1) := by decide +kernel
theorem dL_law_609 : decode mL_law.2.1 609 = .ok (.iconst 1, 1) := by decide +kernel
theorem dL_law_610 : decode mL_law.2.1 610 = .ok (.iadd, 1) := by decide +kernel
theorem dL_law_611 : decode mL_law.2.1 611 = .ok (.iaload, 1) := by decide +kernel
theorem dL_law_612 : decode mL_law.2.1 612 = .ok (.invokevirtual 73, 3) := by decide +kernel
theorem dL_law_615 : decode mL_law.2.1 615 = .ok (.if_icmp .eq 533, 3) := by decide +kernel
theorem dL_law_618 : decode mL_law.2.1 618 = .ok (.iconst 0, 1) := by decide +kernel
theorem dL_law_619 : decode mL_law.2.1 619 = .ok (.ireturn, 1) := by decide +kernel
theorem dL_law_620 : decode mL_law.2.1 620 = .ok (.aload_n 1, 1) := by decide +kernel
theorem dL_law_621 : decode mL_law.2.1 621 = .ok (.invokevirtual 74, 3) := by decide +kernel
theorem dL_law_624 : decode mL_law.2.1 624 = .ok (.aload_n 2, 1) := by decide +kernel
theorem dL_law_625 : decode mL_law.2.1 625 = .ok (.invokevirtual 77, 3) := by decide +kernel
theorem dL_law_628 : decode mL_law.2.1 628 = .ok (.if_icmp .eq 520, 3) := by decide +kernel
theorem dL_law_631 : decode mL_law.2.1 631 = .ok (.iconst 0, 1) := by decide +kernel
theorem dL_law_632 : decode mL_law.2.1 632 = .ok (.ireturn, 1) := by decide +kernel
theorem dL_law_633 : decode mL_law.2.1 633 = .ok (.aload_n 1, 1) := by decide +kernel
theorem dL_law_634 : decode mL_law.2.1 634 = .ok (.aload_n 0, 1) := by decide +kernel
theorem dL_law_635 : decode mL_law.2.1 635 = .ok (.iload_n 3, 1) := by decide +kernel
theorem dL_law_636 : decode mL_law.2.1 636 = .ok (.iconst 1, 1) := by decide +kernel
theorem dL_law_637 : decode mL_law.2.1 637 = .ok (.iadd, 1) := by decide +kernel
theorem dL_law_638 : decode mL_law.2.1 638 = .ok (.iaload, 1) := by decide +kernel
theorem dL_law_639 : decode mL_law.2.1 639 = .ok (.aload_n 0, 1) := by decide +kernel
theorem dL_law_640 : decode mL_law.2.1 640 = .ok (.iload_n 3, 1) := by decide +kernel
theorem dL_law_641 : decode mL_law.2.1 641 = .ok (.iconst 2, 1) := by decide +kernel
theorem dL_law_642 : decode mL_law.2.1 642 = .ok (.iadd, 1) := by decide +kernel
theorem dL_law_643 : decode mL_law.2.1 643 = .ok (.iaload, 1) := by decide +kernel
theorem dL_law_644 : decode mL_law.2.1 644 = .ok (.invokevirtual 78, 3) := by decide +kernel
theorem dL_law_647 : decode mL_law.2.1 647 = .ok (.aload_n 2, 1) := by decide +kernel
theorem dL_law_648 : decode mL_law.2.1 648 = .ok (.aload_n 0, 1) := by decide +kernel
theorem dL_law_649 : decode mL_law.2.1 649 = .ok (.iload_n 3, 1) := by decide +kernel
theorem dL_law_650 : decode mL_law.2.1 650 = .ok (.iconst 1, 1) := by decide +kernel
theorem dL_law_651 : decode mL_law.2.1 651 = .ok (.iadd, 1) := by decide +kernel
theorem dL_law_652 : decode mL_law.2.1 652 = .ok (.iaload, 1) := by decide +kernel
theorem dL_law_653 : decode mL_law.2.1 653 = .ok (.aload_n 0, 1) := by decide +kernel
theorem dL_law_654 : decode mL_law.2.1 654 = .ok (.iload_n 3, 1) := by decide +kernel
theorem dL_law_655 : decode mL_law.2.1 655 = .ok (.iconst 2, 1) := by decide +kernel
theorem dL_law_656 : decode mL_law.2.1 656 = .ok (.iadd, 1) := by decide +kernel
theorem dL_law_657 : decode mL_law.2.1 657 = .ok (.iaload, 1) := by decide +kernel
theorem dL_law_658 : decode mL_law.2.1 658 = .ok (.invokevirtual 81, 3) := by decide +kernel
theorem dL_law_661 : decode mL_law.2.1 661 = .ok (.if_icmp .eq 487, 3) := by decide +kernel
theorem dL_law_664 : decode mL_law.2.1 664 = .ok (.iconst 0, 1) := by decide +kernel
theorem dL_law_665 : decode mL_law.2.1 665 = .ok (.ireturn, 1) := by decide +kernel
theorem dL_law_666 : decode mL_law.2.1 666 = .ok (.aload_n 1, 1) := by decide +kernel
theorem dL_law_667 : decode mL_law.2.1 667 = .ok (.aload_n 0, 1) := by decide +kernel
theorem dL_law_668 : decode mL_law.2.1 668 = .ok (.iload_n 3, 1) := by decide +kernel
theorem dL_law_669 : decode mL_law.2.1 669 = .ok (.iconst 1, 1) := by decide +kernel
theorem dL_law_670 : decode mL_law.2.1 670 = .ok (.iadd, 1) := by decide +kernel
theorem dL_law_671 : decode mL_law.2.1 671 = .ok (.iaload, 1) := by decide +kernel
theorem dL_law_672 : decode mL_law.2.1 672 = .ok (.invokevirtual 82, 3) := by decide +kernel
theorem dL_law_675 : decode mL_law.2.1 675 = .ok (.aload_n 2, 1) := by decide +kernel
theorem dL_law_676 : decode mL_law.2.1 676 = .ok (.aload_n 0, 1) := by decide +kernel
theorem dL_law_677 : decode mL_law.2.1 677 = .ok (.iload_n 3, 1) := by decide +kernel
theorem dL_law_678 : decode mL_law.2.1 678 = .ok (.iconst 1, 1) := by decide +kernel
theorem dL_law_679 : decode mL_law.2.1 679 = .ok (.iadd, 1) := by decide +kernel
theorem dL_law_680 : decode mL_law.2.1 680 = .ok (.iaload, 1) := by decide +kernel
theorem dL_law_681 : decode mL_law.2.1 681 = .ok (.invokevirtual 85, 3) := by decide +kernel
theorem dL_law_684 : decode mL_law.2.1 684 = .ok (.if_icmp .eq 464, 3) := by decide +kernel
theorem dL_law_687 : decode mL_law.2.1 687 = .ok (.iconst 0, 1) := by decide +kernel
theorem dL_law_688 : decode mL_law.2.1 688 = .ok (.ireturn, 1) := by decide +kernel
theorem dL_law_689 : decode mL_law.2.1 689 = .ok (.aload_n 1, 1) := by decide +kernel
theorem dL_law_690 : decode mL_law.2.1 690 = .ok (.invokevirtual 86, 3) := by decide +kernel
theorem dL_law_693 : decode mL_law.2.1 693 = .ok (.aload_n 2, 1) := by decide +kernel
theorem dL_law_694 : decode mL_law.2.1 694 = .ok (.invokevirtual 89, 3) := by decide +kernel
theorem dL_law_697 : decode mL_law.2.1 697 = .ok (.if_icmp .eq 451, 3) := by decide +kernel
theorem dL_law_700 : decode mL_law.2.1 700 = .ok (.iconst 0, 1) := by decide +kernel
theorem dL_law_701 : decode mL_law.2.1 701 = .ok (.ireturn, 1) := by decide +kernel
theorem dL_law_702 : decode mL_law.2.1 702 = .ok (.aload_n 1, 1) := by decide +kernel
theorem dL_law_703 : decode mL_law.2.1 703 = .ok (.aload_n 0, 1) := by decide +kernel
theorem dL_law_704 : decode mL_law.2.1 704 = .ok (.iload_n 3, 1) := by decide +kernel
theorem dL_law_705 : decode mL_law.2.1 705 = .ok (.iconst 1, 1) := by decide +kernel
theorem dL_law_706 : decode mL_law.2.1 706 = .ok (.iadd, 1) := by decide +kernel
theorem dL_law_707 : decode mL_law.2.1 707 = .ok (.iaload, 1) := by decide +kernel
theorem dL_law_708 : decode mL_law.2.1 708 = .ok (.invokevirtual 90, 3) := by decide +kernel
theorem dL_law_711 : decode mL_law.2.1 711 = .ok (.aload_n 2, 1) := by decide +kernel
theorem dL_law_712 : decode mL_law.2.1 712 = .ok (.aload_n 0, 1) := by decide +kernel
theorem dL_law_713 : decode mL_law.2.1 713 = .ok (.iload_n 3, 1) := by decide +kernel
theorem dL_law_714 : decode mL_law.2.1 714 = .ok (.iconst 1, 1) := by decide +kernel
theorem dL_law_715 : decode mL_law.2.1 715 = .ok (.iadd, 1) := by decide +kernel
theorem dL_law_716 : decode mL_law.2.1 716 = .ok (.iaload, 1) := by decide +kernel
theorem dL_law_717 : decode mL_law.2.1 717 = .ok (.invokevirtual 93, 3) := by decide +kernel
theorem dL_law_720 : decode mL_law.2.1 720 = .ok (.if_icmp .eq 428, 3) := by decide +kernel
theorem dL_law_723 : decode mL_law.2.1 723 = .ok (.iconst 0, 1) := by decide +kernel
theorem dL_law_724 : decode mL_law.2.1 724 = .ok (.ireturn, 1) := by decide +kernel
theorem dL_law_725 : decode mL_law.2.1 725 = .ok (.aload_n 1, 1) := by decide +kernel
theorem dL_law_726 : decode mL_law.2.1 726 = .ok (.aload_n 0, 1) := by decide +kernel
theorem dL_law_727 : decode mL_law.2.1 727 = .ok (.iload_n 3, 1) := by decide +kernel
theorem dL_law_728 : decode mL_law.2.1 728 = .ok (.iconst 1, 1) := by decide +kernel
theorem dL_law_729 : decode mL_law.2.1 729 = .ok (.iadd, 1) := by decide +kernel
theorem dL_law_730 : decode mL_law.2.1 730 = .ok (.iaload, 1) := by decide +kernel
theorem dL_law_731 : decode mL_law.2.1 731 = .ok (.invokevirtual 94, 3) := by decide +kernel
theorem dL_law_734 : decode mL_law.2.1 734 = .ok (.aload_n 2, 1) := by decide +kernel
theorem dL_law_735 : decode mL_law.2.1 735 = .ok (.aload_n 0, 1) := by decide +kernel
theorem dL_law_736 : decode mL_law.2.1 736 = .ok (.iload_n 3, 1) := by decide +kernel
theorem dL_law_737 : decode mL_law.2.1 737 = .ok (.iconst 1, 1) := by decide +kernel
theorem dL_law_738 : decode mL_law.2.1 738 = .ok (.iadd, 1) := by decide +kernel
theorem dL_law_739 : decode mL_law.2.1 739 = .ok (.iaload, 1) := by decide +kernel
theorem dL_law_740 : decode mL_law.2.1 740 = .ok (.invokevirtual 97, 3) := by decide +kernel
theorem dL_law_743 : decode mL_law.2.1 743 = .ok (.if_icmp .eq 405, 3) := by decide +kernel
theorem dL_law_746 : decode mL_law.2.1 746 = .ok (.iconst 0, 1) := by decide +kernel
theorem dL_law_747 : decode mL_law.2.1 747 = .ok (.ireturn, 1) := by decide +kernel
theorem dL_law_748 : decode mL_law.2.1 748 = .ok (.aload_n 1, 1) := by decide +kernel
theorem dL_law_749 : decode mL_law.2.1 749 = .ok (.aload_n 0, 1) := by decide +kernel
theorem dL_law_750 : decode mL_law.2.1 750 = .ok (.iload_n 3, 1) := by decide +kernel
theorem dL_law_751 : decode mL_law.2.1 751 = .ok (.iconst 1, 1) := by decide +kernel
theorem dL_law_752 : decode mL_law.2.1 752 = .ok (.iadd, 1) := by decide +kernel
theorem dL_law_753 : decode mL_law.2.1 753 = .ok (.iaload, 1) := by decide +kernel
theorem dL_law_754 : decode mL_law.2.1 754 = .ok (.aload_n 0, 1) := by decide +kernel
theorem dL_law_755 : decode mL_law.2.1 755 = .ok (.iload_n 3, 1) := by decide +kernel
theorem dL_law_756 : decode mL_law.2.1 756 = .ok (.iconst 2, 1) := by decide +kernel
theorem dL_law_757 : decode mL_law.2.1 757 = .ok (.iadd, 1) := by decide +kernel
theorem dL_law_758 : decode mL_law.2.1 758 = .ok (.iaload, 1) := by decide +kernel
theorem dL_law_759 : decode mL_law.2.1 759 = .ok (.aload_n 0, 1) := by decide +kernel
theorem dL_law_760 : decode mL_law.2.1 760 = .ok (.iload_n 3, 1) := by decide +kernel
theorem dL_law_761 : decode mL_law.2.1 761 = .ok (.iconst 3, 1) := by decide +kernel
theorem dL_law_762 : decode mL_law.2.1 762 = .ok (.iadd, 1) := by decide +kernel
theorem dL_law_763 : decode mL_law.2.1 763 = .ok (.iaload, 1) := by decide +kernel
theorem dL_law_764 : decode mL_law.2.1 764 = .ok (.invokevirtual 98, 3) := by decide +kernel
theorem dL_law_767 : decode mL_law.2.1 767 = .ok (.aload_n 2, 1) := by decide +kernel
theorem dL_law_768 : decode mL_law.2.1 768 = .ok (.aload_n 0, 1) := by decide +kernel
theorem dL_law_769 : decode mL_law.2.1 769 = .ok (.iload_n 3, 1) := by decide +kernel
theorem dL_law_770 : decode mL_law.2.1 770 = .ok (.iconst 1, 1) := by decide +kernel
theorem dL_law_771 : decode mL_law.2.1 771 = .ok (.iadd, 1) := by decide +kernel
theorem dL_law_772 : decode mL_law.2.1 772 = .ok (.iaload, 1) := by decide +kernel
theorem dL_law_773 : decode mL_law.2.1 773 = .ok (.aload_n 0, 1) := by decide +kernel
theorem dL_law_774 : decode mL_law.2.1 774 = .ok (.iload_n 3, 1) := by decide +kernel
theorem dL_law_775 : decode mL_law.2.1 775 = .ok (.iconst 2, 1) := by decide +kernel
theorem dL_law_776 : decode mL_law.2.1 776 = .ok (.iadd, 1) := by decide +kernel
theorem dL_law_777 : decode mL_law.2.1 777 = .ok (.iaload, 1) := by decide +kernel
theorem dL_law_778 : decode mL_law.2.1 778 = .ok (.aload_n 0, 1) := by decide +kernel
theorem dL_law_779 : decode mL_law.2.1 779 = .ok (.iload_n 3, 1) := by decide +kernel
theorem dL_law_780 : decode mL_law.2.1 780 = .ok (.iconst 3, 1) := by decide +kernel
theorem dL_law_781 : decode mL_law.2.1 781 = .ok (.iadd, 1) := by decide +kernel
theorem dL_law_782 : decode mL_law.2.1 782 = .ok (.iaload, 1) := by decide +kernel
theorem dL_law_783 : decode mL_law.2.1 783 = .ok (.invokevirtual 101, 3) := by decide +kernel
theorem dL_law_786 : decode mL_law.2.1 786 = .ok (.if_icmp .eq 362, 3) := by decide +kernel
theorem dL_law_789 : decode mL_law.2.1 789 = .ok (.iconst 0, 1) := by decide +kernel
theorem dL_law_790 : decode mL_law.2.1 790 = .ok (.ireturn, 1) := by decide +kernel
theorem dL_law_791 : decode mL_law.2.1 791 = .ok (.aload_n 1, 1) := by decide +kernel
theorem dL_law_792 : decode mL_law.2.1 792 = .ok (.aload_n 0, 1) := by decide +kernel
theorem dL_law_793 : decode mL_law.2.1 793 = .ok (.iload_n 3, 1) := by decide +kernel
theorem dL_law_794 : decode mL_law.2.1 794 = .ok (.iconst 1, 1) := by decide +kernel
theorem dL_law_795 : decode mL_law.2.1 795 = .ok (.iadd, 1) := by decide +kernel
theorem dL_law_796 : decode mL_law.2.1 796 = .ok (.iaload, 1) := by decide +kernel
theorem dL_law_797 : decode mL_law.2.1 797 = .ok (.aload_n 0, 1) := by decide +kernel
theorem dL_law_798 : decode mL_law.2.1 798 = .ok (.iload_n 3, 1) := by decide +kernel
theorem dL_law_799 : decode mL_law.2.1 799 = .ok (.iconst 2, 1) := by decide +kernel
theorem dL_law_800 : decode mL_law.2.1 800 = .ok (.iadd, 1) := by decide +kernel
theorem dL_law_801 : decode mL_law.2.1 801 = .ok (.iaload, 1) := by decide +kernel
theorem dL_law_802 : decode mL_law.2.1 802 = .ok (.aload_n 0, 1) := by decide +kernel
theorem dL_law_803 : decode mL_law.2.1 803 = .ok (.iload_n 3, 1) := by decide +kernel
theorem dL_law_804 : decode mL_law.2.1 804 = .ok (.iconst 3, 1) := by decide +kernel
theorem dL_law_805 : decode mL_law.2.1 805 = .ok (.iadd, 1) := by decide +kernel
theorem dL_law_806 : decode mL_law.2.1 806 = .ok (.iaload, 1) := by decide +kernel
theorem dL_law_807 : decode mL_law.2.1 807 = .ok (.invokevirtual 102, 3) := by decide +kernel
theorem dL_law_810 : decode mL_law.2.1 810 = .ok (.aload_n 2, 1) := by decide +kernel
theorem dL_law_811 : decode mL_law.2.1 811 = .ok (.aload_n 0, 1) := by decide +kernel
theorem dL_law_812 : decode mL_law.2.1 812 = .ok (.iload_n 3, 1) := by decide +kernel
theorem dL_law_813 : decode mL_law.2.1 813 = .ok (.iconst 1, 1) := by decide +kernel
theorem dL_law_814 : decode mL_law.2.1 814 = .ok (.iadd, 1) := by decide +kernel
theorem dL_law_815 : decode mL_law.2.1 815 = .ok (.iaload, 1) := by decide +kernel
theorem dL_law_816 : decode mL_law.2.1 816 = .ok (.aload_n 0, 1) := by decide +kernel
theorem dL_law_817 : decode mL_law.2.1 817 = .ok (.iload_n 3, 1) := by decide +kernel
theorem dL_law_818 : decode mL_law.2.1 818 = .ok (.iconst 2, 1) := by decide +kernel
theorem dL_law_819 : decode mL_law.2.1 819 = .ok (.iadd, 1) := by decide +kernel
theorem dL_law_820 : decode mL_law.2.1 820 = .ok (.iaload, 1) := by decide +kernel
theorem dL_law_821 : decode mL_law.2.1 821 = .ok (.aload_n 0, 1) := by decide +kernel
theorem dL_law_822 : decode mL_law.2.1 822 = .ok (.iload_n 3, 1) := by decide +kernel
theorem dL_law_823 : decode mL_law.2.1 823 = .ok (.iconst 3, 1) := by decide +kernel
theorem dL_law_824 : decode mL_law.2.1 824 = .ok (.iadd, 1) := by decide +kernel
theorem dL_law_825 : decode mL_law.2.1 825 = .ok (.iaload, 1) := by decide +kernel
theorem dL_law_826 : decode mL_law.2.1 826 = .ok (.invokevirtual 105, 3) := by decide +kernel
theorem dL_law_829 : decode mL_law.2.1 829 = .ok (.if_icmp .eq 319, 3) := by decide +kernel
theorem dL_law_832 : decode mL_law.2.1 832 = .ok (.iconst 0, 1) := by decide +kernel
theorem dL_law_833 : decode mL_law.2.1 833 = .ok (.ireturn, 1) := by decide +kernel
theorem dL_law_834 : decode mL_law.2.1 834 = .ok (.aload_n 1, 1) := by decide +kernel
theorem dL_law_835 : decode mL_law.2.1 835 = .ok (.aload_n 0, 1) := by decide +kernel
theorem dL_law_836 : decode mL_law.2.1 836 = .ok (.iload_n 3, 1) := by decide +kernel
theorem dL_law_837 : decode mL_law.2.1 837 = .ok (.iconst 1, 1) := by decide +kernel
theorem dL_law_838 : decode mL_law.2.1 838 = .ok (.iadd, 1) := by decide +kernel
theorem dL_law_839 : decode mL_law.2.1 839 = .ok (.iaload, 1) := by decide +kernel
theorem dL_law_840 : decode mL_law.2.1 840 = .ok (.aload_n 0, 1) := by decide +kernel
theorem dL_law_841 : decode mL_law.2.1 841 = .ok (.iload_n 3, 1) := by decide +kernel
theorem dL_law_842 : decode mL_law.2.1 842 = .ok (.iconst 2, 1) := by decide +kernel
theorem dL_law_843 : decode mL_law.2.1 843 = .ok (.iadd, 1) := by decide +kernel
theorem dL_law_844 : decode mL_law.2.1 844 = .ok (.iaload, 1) := by decide +kernel
theorem dL_law_845 : decode mL_law.2.1 845 = .ok (.aload_n 0, 1) := by decide +kernel
theorem dL_law_846 : decode mL_law.2.1 846 = .ok (.iload_n 3, 1) := by decide +kernel
theorem dL_law_847 : decode mL_law.2.1 847 = .ok (.iconst 3, 1) := by decide +kernel
theorem dL_law_848 : decode mL_law.2.1 848 = .ok (.iadd, 1) := by decide +kernel
theorem dL_law_849 : decode mL_law.2.1 849 = .ok (.iaload, 1) := by decide +kernel
theorem dL_law_850 : decode mL_law.2.1 850 = .ok (.invokevirtual 106, 3) := by decide +kernel
theorem dL_law_853 : decode mL_law.2.1 853 = .ok (.aload_n 2, 1) := by decide +kernel
theorem dL_law_854 : decode mL_law.2.1 854 = .ok (.aload_n 0, 1) := by decide +kernel
theorem dL_law_855 : decode mL_law.2.1 855 = .ok (.iload_n 3, 1) := by decide +kernel
theorem dL_law_856 : decode mL_law.2.1 856 = .ok (.iconst 1, 1) := by decide +kernel
theorem dL_law_857 : decode mL_law.2.1 857 = .ok (.iadd, 1) := by decide +kernel
theorem dL_law_858 : decode mL_law.2.1 858 = .ok (.iaload, 1) := by decide +kernel
theorem dL_law_859 : decode mL_law.2.1 859 = .ok (.aload_n 0, 1) := by decide +kernel
theorem dL_law_860 : decode mL_law.2.1 860 = .ok (.iload_n 3, 1) := by decide +kernel
theorem dL_law_861 : decode mL_law.2.1 861 = .ok (.iconst 2, 1) := by decide +kernel
theorem dL_law_862 : decode mL_law.2.1 862 = .ok (.iadd, 1) := by decide +kernel
theorem dL_law_863 : decode mL_law.2.1 863 = .ok (.iaload, 1) := by decide +kernel
theorem dL_law_864 : decode mL_law.2.1 864 = .ok (.aload_n 0, 1) := by decide +kernel
theorem dL_law_865 : decode mL_law.2.1 865 = .ok (.iload_n 3, 1) := by decide +kernel
theorem dL_law_866 : decode mL_law.2.1 866 = .ok (.iconst 3, 1) := by decide +kernel
theorem dL_law_867 : decode mL_law.2.1 867 = .ok (.iadd, 1) := by decide +kernel
theorem dL_law_868 : decode mL_law.2.1 868 = .ok (.iaload, 1) := by decide +kernel
theorem dL_law_869 : decode mL_law.2.1 869 = .ok (.invokevirtual 109, 3) := by decide +kernel
theorem dL_law_872 : decode mL_law.2.1 872 = .ok (.if_icmp .eq 276, 3) := by decide +kernel
theorem dL_law_875 : decode mL_law.2.1 875 = .ok (.iconst 0, 1) := by decide +kernel
theorem dL_law_876 : decode mL_law.2.1 876 = .ok (.ireturn, 1) := by decide +kernel
theorem dL_law_877 : decode mL_law.2.1 877 = .ok (.aload_n 1, 1) := by decide +kernel
theorem dL_law_878 : decode mL_law.2.1 878 = .ok (.aload_n 0, 1) := by decide +kernel
theorem dL_law_879 : decode mL_law.2.1 879 = .ok (.iload_n 3, 1) := by decide +kernel
theorem dL_law_880 : decode mL_law.2.1 880 = .ok (.iconst 1, 1) := by decide +kernel
theorem dL_law_881 : decode mL_law.2.1 881 = .ok (.iadd, 1) := by decide +kernel
theorem dL_law_882 : decode mL_law.2.1 882 = .ok (.iaload, 1) := by decide +kernel
theorem dL_law_883 : decode mL_law.2.1 883 = .ok (.aload_n 0, 1) := by decide +kernel
theorem dL_law_884 : decode mL_law.2.1 884 = .ok (.iload_n 3, 1) := by decide +kernel
theorem dL_law_885 : decode mL_law.2.1 885 = .ok (.iconst 2, 1) := by decide +kernel
theorem dL_law_886 : decode mL_law.2.1 886 = .ok (.iadd, 1) := by decide +kernel
theorem dL_law_887 : decode mL_law.2.1 887 = .ok (.iaload, 1) := by decide +kernel
theorem dL_law_888 : decode mL_law.2.1 888 = .ok (.aload_n 0, 1) := by decide +kernel
theorem dL_law_889 : decode mL_law.2.1 889 = .ok (.iload_n 3, 1) := by decide +kernel
theorem dL_law_890 : decode mL_law.2.1 890 = .ok (.iconst 3, 1) := by decide +kernel
theorem dL_law_891 : decode mL_law.2.1 891 = .ok (.iadd, 1) := by decide +kernel
theorem dL_law_892 : decode mL_law.2.1 892 = .ok (.iaload, 1) := by decide +kernel
theorem dL_law_893 : decode mL_law.2.1 893 = .ok (.aload_n 0, 1) := by decide +kernel
theorem dL_law_894 : decode mL_law.2.1 894 = .ok (.iload_n 3, 1) := by decide +kernel
theorem dL_law_895 : decode mL_law.2.1 895 = .ok (.iconst 4, 1) := by decide +kernel
theorem dL_law_896 : decode mL_law.2.1 896 = .ok (.iadd, 1) := by decide +kernel
theorem dL_law_897 : decode mL_law.2.1 897 = .ok (.iaload, 1) := by decide +kernel
theorem dL_law_898 : decode mL_law.2.1 898 = .ok (.invokevirtual 110, 3) := by decide +kernel
theorem dL_law_901 : decode mL_law.2.1 901 = .ok (.aload_n 2, 1) := by decide +kernel
theorem dL_law_902 : decode mL_law.2.1 902 = .ok (.aload_n 0, 1) := by decide +kernel
theorem dL_law_903 : decode mL_law.2.1 903 = .ok (.iload_n 3, 1) := by decide +kernel
theorem dL_law_904 : decode mL_law.2.1 904 = .ok (.iconst 1, 1) := by decide +kernel
theorem dL_law_905 : decode mL_law.2.1 905 = .ok (.iadd, 1) := by decide +kernel
theorem dL_law_906 : decode mL_law.2.1 906 = .ok (.iaload, 1) := by decide +kernel
theorem dL_law_907 : decode mL_law.2.1 907 = .ok (.aload_n 0, 1) := by decide +kernel
theorem dL_law_908 : decode mL_law.2.1 908 = .ok (.iload_n 3, 1) := by decide +kernel
theorem dL_law_909 : decode mL_law.2.1 909 = .ok (.iconst 2, 1) := by decide +kernel
theorem dL_law_910 : decode mL_law.2.1 910 = .ok (.iadd, 1) := by decide +kernel
theorem dL_law_911 : decode mL_law.2.1 911 = .ok (.iaload, 1) := by decide +kernel
theorem dL_law_912 : decode mL_law.2.1 912 = .ok (.aload_n 0, 1) := by decide +kernel
theorem dL_law_913 : decode mL_law.2.1 913 = .ok (.iload_n 3, 1) := by decide +kernel
theorem dL_law_914 : decode mL_law.2.1 914 = .ok (.iconst 3, 1) := by decide +kernel
theorem dL_law_915 : decode mL_law.2.1 915 = .ok (.iadd, 1) := by decide +kernel
theorem dL_law_916 : decode mL_law.2.1 916 = .ok (.iaload, 1) := by decide +kernel
theorem dL_law_917 : decode mL_law.2.1 917 = .ok (.aload_n 0, 1) := by decide +kernel
theorem dL_law_918 : decode mL_law.2.1 918 = .ok (.iload_n 3, 1) := by decide +kernel
theorem dL_law_919 : decode mL_law.2.1 919 = .ok (.iconst 4, 1) := by decide +kernel
theorem dL_law_920 : decode mL_law.2.1 920 = .ok (.iadd, 1) := by decide +kernel
theorem dL_law_921 : decode mL_law.2.1 921 = .ok (.iaload, 1) := by decide +kernel
theorem dL_law_922 : decode mL_law.2.1 922 = .ok (.invokevirtual 113, 3) := by decide +kernel
theorem dL_law_925 : decode mL_law.2.1 925 = .ok (.if_icmp .eq 223, 3) := by decide +kernel
theorem dL_law_928 : decode mL_law.2.1 928 = .ok (.iconst 0, 1) := by decide +kernel
theorem dL_law_929 : decode mL_law.2.1 929 = .ok (.ireturn, 1) := by decide +kernel
theorem dL_law_930 : decode mL_law.2.1 930 = .ok (.aload_n 1, 1) := by decide +kernel
theorem dL_law_931 : decode mL_law.2.1 931 = .ok (.aload_n 0, 1) := by decide +kernel
theorem dL_law_932 : decode mL_law.2.1 932 = .ok (.iload_n 3, 1) := by decide +kernel
theorem dL_law_933 : decode mL_law.2.1 933 = .ok (.iconst 1, 1) := by decide +kernel
theorem dL_law_934 : decode mL_law.2.1 934 = .ok (.iadd, 1) := by decide +kernel
theorem dL_law_935 : decode mL_law.2.1 935 = .ok (.iaload, 1) := by decide +kernel
theorem dL_law_936 : decode mL_law.2.1 936 = .ok (.aload_n 0, 1) := by decide +kernel
theorem dL_law_937 : decode mL_law.2.1 937 = .ok (.iload_n 3, 1) := by decide +kernel
theorem dL_law_938 : decode mL_law.2.1 938 = .ok (.iconst 2, 1) := by decide +kernel
theorem dL_law_939 : decode mL_law.2.1 939 = .ok (.iadd, 1) := by decide +kernel
theorem dL_law_940 : decode mL_law.2.1 940 = .ok (.iaload, 1) := by decide +kernel
theorem dL_law_941 : decode mL_law.2.1 941 = .ok (.aload_n 0, 1) := by decide +kernel
theorem dL_law_942 : decode mL_law.2.1 942 = .ok (.iload_n 3, 1) := by decide +kernel
theorem dL_law_943 : decode mL_law.2.1 943 = .ok (.iconst 3, 1) := by decide +kernel
theorem dL_law_944 : decode mL_law.2.1 944 = .ok (.iadd, 1) := by decide +kernel
theorem dL_law_945 : decode mL_law.2.1 945 = .ok (.iaload, 1) := by decide +kernel
theorem dL_law_946 : decode mL_law.2.1 946 = .ok (.invokevirtual 114, 3) := by decide +kernel
theorem dL_law_949 : decode mL_law.2.1 949 = .ok (.aload_n 2, 1) := by decide +kernel
theorem dL_law_950 : decode mL_law.2.1 950 = .ok (.aload_n 0, 1) := by decide +kernel
theorem dL_law_951 : decode mL_law.2.1 951 = .ok (.iload_n 3, 1) := by decide +kernel
theorem dL_law_952 : decode mL_law.2.1 952 = .ok (.iconst 1, 1) := by decide +kernel
theorem dL_law_953 : decode mL_law.2.1 953 = .ok (.iadd, 1) := by decide +kernel
theorem dL_law_954 : decode mL_law.2.1 954 = .ok (.iaload, 1) := by decide +kernel
theorem dL_law_955 : decode mL_law.2.1 955 = .ok (.aload_n 0, 1) := by decide +kernel
theorem dL_law_956 : decode mL_law.2.1 956 = .ok (.iload_n 3, 1) := by decide +kernel
theorem dL_law_957 : decode mL_law.2.1 957 = .ok (.iconst 2, 1) := by decide +kernel
theorem dL_law_958 : decode mL_law.2.1 958 = .ok (.iadd, 1) := by decide +kernel
theorem dL_law_959 : decode mL_law.2.1 959 = .ok (.iaload, 1) := by decide +kernel
theorem dL_law_960 : decode mL_law.2.1 960 = .ok (.aload_n 0, 1) := by decide +kernel
theorem dL_law_961 : decode mL_law.2.1 961 = .ok (.iload_n 3, 1) := by decide +kernel
theorem dL_law_962 : decode mL_law.2.1 962 = .ok (.iconst 3, 1) := by decide +kernel
theorem dL_law_963 : decode mL_law.2.1 963 = .ok (.iadd, 1) := by decide +kernel
theorem dL_law_964 : decode mL_law.2.1 964 = .ok (.iaload, 1) := by decide +kernel
theorem dL_law_965 : decode mL_law.2.1 965 = .ok (.invokevirtual 117, 3) := by decide +kernel
theorem dL_law_968 : decode mL_law.2.1 968 = .ok (.if_icmp .eq 180, 3) := by decide +kernel
theorem dL_law_971 : decode mL_law.2.1 971 = .ok (.iconst 0, 1) := by decide +kernel
theorem dL_law_972 : decode mL_law.2.1 972 = .ok (.ireturn, 1) := by decide +kernel
theorem dL_law_973 : decode mL_law.2.1 973 = .ok (.aload_n 1, 1) := by decide +kernel
theorem dL_law_974 : decode mL_law.2.1 974 = .ok (.aload_n 0, 1) := by decide +kernel
theorem dL_law_975 : decode mL_law.2.1 975 = .ok (.iload_n 3, 1) := by decide +kernel
theorem dL_law_976 : decode mL_law.2.1 976 = .ok (.iconst 1, 1) := by decide +kernel
theorem dL_law_977 : decode mL_law.2.1 977 = .ok (.iadd, 1) := by decide +kernel
theorem dL_law_978 : decode mL_law.2.1 978 = .ok (.iaload, 1) := by decide +kernel
theorem dL_law_979 : decode mL_law.2.1 979 = .ok (.invokevirtual 118, 3) := by decide +kernel
theorem dL_law_982 : decode mL_law.2.1 982 = .ok (.aload_n 2, 1) := by decide +kernel
theorem dL_law_983 : decode mL_law.2.1 983 = .ok (.aload_n 0, 1) := by decide +kernel
theorem dL_law_984 : decode mL_law.2.1 984 = .ok (.iload_n 3, 1) := by decide +kernel
theorem dL_law_985 : decode mL_law.2.1 985 = .ok (.iconst 1, 1) := by decide +kernel
theorem dL_law_986 : decode mL_law.2.1 986 = .ok (.iadd, 1) := by decide +kernel
theorem dL_law_987 : decode mL_law.2.1 987 = .ok (.iaload, 1) := by decide +kernel
theorem dL_law_988 : decode mL_law.2.1 988 = .ok (.invokevirtual 121, 3) := by decide +kernel
theorem dL_law_991 : decode mL_law.2.1 991 = .ok (.if_icmp .eq 157, 3) := by decide +kernel
theorem dL_law_994 : decode mL_law.2.1 994 = .ok (.iconst 0, 1) := by decide +kernel
theorem dL_law_995 : decode mL_law.2.1 995 = .ok (.ireturn, 1) := by decide +kernel
theorem dL_law_996 : decode mL_law.2.1 996 = .ok (.aload_n 1, 1) := by decide +kernel
theorem dL_law_997 : decode mL_law.2.1 997 = .ok (.aload_n 0, 1) := by decide +kernel
theorem dL_law_998 : decode mL_law.2.1 998 = .ok (.iload_n 3, 1) := by decide +kernel
theorem dL_law_999 : decode mL_law.2.1 999 = .ok (.iconst 1, 1) := by decide +kernel
theorem dL_law_1000 : decode mL_law.2.1 1000 = .ok (.iadd, 1) := by decide +kernel
theorem dL_law_1001 : decode mL_law.2.1 1001 = .ok (.iaload, 1) := by decide +kernel
theorem dL_law_1002 : decode mL_law.2.1 1002 = .ok (.aload_n 0, 1) := by decide +kernel
theorem dL_law_1003 : decode mL_law.2.1 1003 = .ok (.iload_n 3, 1) := by decide +kernel
theorem dL_law_1004 : decode mL_law.2.1 1004 = .ok (.iconst 2, 1) := by decide +kernel
theorem dL_law_1005 : decode mL_law.2.1 1005 = .ok (.iadd, 1) := by decide +kernel
theorem dL_law_1006 : decode mL_law.2.1 1006 = .ok (.iaload, 1) := by decide +kernel
theorem dL_law_1007 : decode mL_law.2.1 1007 = .ok (.aload_n 0, 1) := by decide +kernel
theorem dL_law_1008 : decode mL_law.2.1 1008 = .ok (.iload_n 3, 1) := by decide +kernel
theorem dL_law_1009 : decode mL_law.2.1 1009 = .ok (.iconst 3, 1) := by decide +kernel
theorem dL_law_1010 : decode mL_law.2.1 1010 = .ok (.iadd, 1) := by decide +kernel
theorem dL_law_1011 : decode mL_law.2.1 1011 = .ok (.iaload, 1) := by decide +kernel
theorem dL_law_1012 : decode mL_law.2.1 1012 = .ok (.invokevirtual 122, 3) := by decide +kernel
theorem dL_law_1015 : decode mL_law.2.1 1015 = .ok (.aload_n 2, 1) := by decide +kernel
theorem dL_law_1016 : decode mL_law.2.1 1016 = .ok (.aload_n 0, 1) := by decide +kernel
theorem dL_law_1017 : decode mL_law.2.1 1017 = .ok (.iload_n 3, 1) := by decide +kernel
theorem dL_law_1018 : decode mL_law.2.1 1018 = .ok (.iconst 1, 1) := by decide +kernel
theorem dL_law_1019 : decode mL_law.2.1 1019 = .ok (.iadd, 1) := by decide +kernel
theorem dL_law_1020 : decode mL_law.2.1 1020 = .ok (.iaload, 1) := by decide +kernel
theorem dL_law_1021 : decode mL_law.2.1 1021 = .ok (.aload_n 0, 1) := by decide +kernel
theorem dL_law_1022 : decode mL_law.2.1 1022 = .ok (.iload_n 3, 1) := by decide +kernel
theorem dL_law_1023 : decode mL_law.2.1 1023 = .ok (.iconst 2, 1) := by decide +kernel
theorem dL_law_1024 : decode mL_law.2.1 1024 = .ok (.iadd, 1) := by decide +kernel
theorem dL_law_1025 : decode mL_law.2.1 1025 = .ok (.iaload, 1) := by decide +kernel
theorem dL_law_1026 : decode mL_law.2.1 1026 = .ok (.aload_n 0, 1) := by decide +kernel
theorem dL_law_1027 : decode mL_law.2.1 1027 = .ok (.iload_n 3, 1) := by decide +kernel
theorem dL_law_1028 : decode mL_law.2.1 1028 = .ok (.iconst 3, 1) := by decide +kernel
theorem dL_law_1029 : decode mL_law.2.1 1029 = .ok (.iadd, 1) := by decide +kernel
theorem dL_law_1030 : decode mL_law.2.1 1030 = .ok (.iaload, 1) := by decide +kernel
theorem dL_law_1031 : decode mL_law.2.1 1031 = .ok (.invokevirtual 125, 3) := by decide +kernel
theorem dL_law_1034 : decode mL_law.2.1 1034 = .ok (.if_icmp .eq 114, 3) := by decide +kernel
theorem dL_law_1037 : decode mL_law.2.1 1037 = .ok (.iconst 0, 1) := by decide +kernel
theorem dL_law_1038 : decode mL_law.2.1 1038 = .ok (.ireturn, 1) := by decide +kernel
theorem dL_law_1039 : decode mL_law.2.1 1039 = .ok (.aload_n 1, 1) := by decide +kernel
theorem dL_law_1040 : decode mL_law.2.1 1040 = .ok (.aload_n 0, 1) := by decide +kernel
theorem dL_law_1041 : decode mL_law.2.1 1041 = .ok (.iload_n 3, 1) := by decide +kernel
theorem dL_law_1042 : decode mL_law.2.1 1042 = .ok (.iconst 1, 1) := by decide +kernel
theorem dL_law_1043 : decode mL_law.2.1 1043 = .ok (.iadd, 1) := by decide +kernel
theorem dL_law_1044 : decode mL_law.2.1 1044 = .ok (.iaload, 1) := by decide +kernel
theorem dL_law_1045 : decode mL_law.2.1 1045 = .ok (.aload_n 0, 1) := by decide +kernel
theorem dL_law_1046 : decode mL_law.2.1 1046 = .ok (.iload_n 3, 1) := by decide +kernel
theorem dL_law_1047 : decode mL_law.2.1 1047 = .ok (.iconst 2, 1) := by decide +kernel
theorem dL_law_1048 : decode mL_law.2.1 1048 = .ok (.iadd, 1) := by decide +kernel
theorem dL_law_1049 : decode mL_law.2.1 1049 = .ok (.iaload, 1) := by decide +kernel
theorem dL_law_1050 : decode mL_law.2.1 1050 = .ok (.aload_n 0, 1) := by decide +kernel
theorem dL_law_1051 : decode mL_law.2.1 1051 = .ok (.iload_n 3, 1) := by decide +kernel
theorem dL_law_1052 : decode mL_law.2.1 1052 = .ok (.iconst 3, 1) := by decide +kernel
theorem dL_law_1053 : decode mL_law.2.1 1053 = .ok (.iadd, 1) := by decide +kernel
theorem dL_law_1054 : decode mL_law.2.1 1054 = .ok (.iaload, 1) := by decide +kernel
theorem dL_law_1055 : decode mL_law.2.1 1055 = .ok (.invokevirtual 126, 3) := by decide +kernel
theorem dL_law_1058 : decode mL_law.2.1 1058 = .ok (.aload_n 2, 1) := by decide +kernel
theorem dL_law_1059 : decode mL_law.2.1 1059 = .ok (.aload_n 0, 1) := by decide +kernel
theorem dL_law_1060 : decode mL_law.2.1 1060 = .ok (.iload_n 3, 1) := by decide +kernel
theorem dL_law_1061 : decode mL_law.2.1 1061 = .ok (.iconst 1, 1) := by decide +kernel
theorem dL_law_1062 : decode mL_law.2.1 1062 = .ok (.iadd, 1) := by decide +kernel
theorem dL_law_1063 : decode mL_law.2.1 1063 = .ok (.iaload, 1) := by decide +kernel
theorem dL_law_1064 : decode mL_law.2.1 1064 = .ok (.aload_n 0, 1) := by decide +kernel
theorem dL_law_1065 : decode mL_law.2.1 1065 = .ok (.iload_n 3, 1) := by decide +kernel
theorem dL_law_1066 : decode mL_law.2.1 1066 = .ok (.iconst 2, 1) := by decide +kernel
theorem dL_law_1067 : decode mL_law.2.1 1067 = .ok (.iadd, 1) := by decide +kernel
theorem dL_law_1068 : decode mL_law.2.1 1068 = .ok (.iaload, 1) := by decide +kernel
theorem dL_law_1069 : decode mL_law.2.1 1069 = .ok (.aload_n 0, 1) := by decide +kernel
theorem dL_law_1070 : decode mL_law.2.1 1070 = .ok (.iload_n 3, 1) := by decide +kernel
theorem dL_law_1071 : decode mL_law.2.1 1071 = .ok (.iconst 3, 1) := by decide +kernel
theorem dL_law_1072 : decode mL_law.2.1 1072 = .ok (.iadd, 1) := by decide +kernel
theorem dL_law_1073 : decode mL_law.2.1 1073 = .ok (.iaload, 1) := by decide +kernel
theorem dL_law_1074 : decode mL_law.2.1 1074 = .ok (.invokevirtual 129, 3) := by decide +kernel
theorem dL_law_1077 : decode mL_law.2.1 1077 = .ok (.if_icmp .eq 71, 3) := by decide +kernel
theorem dL_law_1080 : decode mL_law.2.1 1080 = .ok (.iconst 0, 1) := by decide +kernel
theorem dL_law_1081 : decode mL_law.2.1 1081 = .ok (.ireturn, 1) := by decide +kernel
theorem dL_law_1082 : decode mL_law.2.1 1082 = .ok (.aload_n 1, 1) := by decide +kernel
theorem dL_law_1083 : decode mL_law.2.1 1083 = .ok (.aload_n 0, 1) := by decide +kernel
theorem dL_law_1084 : decode mL_law.2.1 1084 = .ok (.iload_n 3, 1) := by decide +kernel
theorem dL_law_1085 : decode mL_law.2.1 1085 = .ok (.iconst 1, 1) := by decide +kernel
theorem dL_law_1086 : decode mL_law.2.1 1086 = .ok (.iadd, 1) := by decide +kernel
theorem dL_law_1087 : decode mL_law.2.1 1087 = .ok (.iaload, 1) := by decide +kernel
theorem dL_law_1088 : decode mL_law.2.1 1088 = .ok (.aload_n 0, 1) := by decide +kernel
theorem dL_law_1089 : decode mL_law.2.1 1089 = .ok (.iload_n 3, 1) := by decide +kernel
theorem dL_law_1090 : decode mL_law.2.1 1090 = .ok (.iconst 2, 1) := by decide +kernel
theorem dL_law_1091 : decode mL_law.2.1 1091 = .ok (.iadd, 1) := by decide +kernel
theorem dL_law_1092 : decode mL_law.2.1 1092 = .ok (.iaload, 1) := by decide +kernel
theorem dL_law_1093 : decode mL_law.2.1 1093 = .ok (.aload_n 0, 1) := by decide +kernel
theorem dL_law_1094 : decode mL_law.2.1 1094 = .ok (.iload_n 3, 1) := by decide +kernel
theorem dL_law_1095 : decode mL_law.2.1 1095 = .ok (.iconst 3, 1) := by decide +kernel
theorem dL_law_1096 : decode mL_law.2.1 1096 = .ok (.iadd, 1) := by decide +kernel
theorem dL_law_1097 : decode mL_law.2.1 1097 = .ok (.iaload, 1) := by decide +kernel
theorem dL_law_1098 : decode mL_law.2.1 1098 = .ok (.invokevirtual 130, 3) := by decide +kernel
theorem dL_law_1101 : decode mL_law.2.1 1101 = .ok (.aload_n 2, 1) := by decide +kernel
theorem dL_law_1102 : decode mL_law.2.1 1102 = .ok (.aload_n 0, 1) := by decide +kernel
theorem dL_law_1103 : decode mL_law.2.1 1103 = .ok (.iload_n 3, 1) := by decide +kernel
theorem dL_law_1104 : decode mL_law.2.1 1104 = .ok (.iconst 1, 1) := by decide +kernel
theorem dL_law_1105 : decode mL_law.2.1 1105 = .ok (.iadd, 1) := by decide +kernel
theorem dL_law_1106 : decode mL_law.2.1 1106 = .ok (.iaload, 1) := by decide +kernel
theorem dL_law_1107 : decode mL_law.2.1 1107 = .ok (.aload_n 0, 1) := by decide +kernel
theorem dL_law_1108 : decode mL_law.2.1 1108 = .ok (.iload_n 3, 1) := by decide +kernel
theorem dL_law_1109 : decode mL_law.2.1 1109 = .ok (.iconst 2, 1) := by decide +kernel
theorem dL_law_1110 : decode mL_law.2.1 1110 = .ok (.iadd, 1) := by decide +kernel
theorem dL_law_1111 : decode mL_law.2.1 1111 = .ok (.iaload, 1) := by decide +kernel
theorem dL_law_1112 : decode mL_law.2.1 1112 = .ok (.aload_n 0, 1) := by decide +kernel
theorem dL_law_1113 : decode mL_law.2.1 1113 = .ok (.iload_n 3, 1) := by decide +kernel
theorem dL_law_1114 : decode mL_law.2.1 1114 = .ok (.iconst 3, 1) := by decide +kernel
theorem dL_law_1115 : decode mL_law.2.1 1115 = .ok (.iadd, 1) := by decide +kernel
theorem dL_law_1116 : decode mL_law.2.1 1116 = .ok (.iaload, 1) := by decide +kernel
theorem dL_law_1117 : decode mL_law.2.1 1117 = .ok (.invokevirtual 133, 3) := by decide +kernel
theorem dL_law_1120 : decode mL_law.2.1 1120 = .ok (.if_icmp .eq 28, 3) := by decide +kernel
theorem dL_law_1123 : decode mL_law.2.1 1123 = .ok (.iconst 0, 1) := by decide +kernel
theorem dL_law_1124 : decode mL_law.2.1 1124 = .ok (.ireturn, 1) := by decide +kernel
theorem dL_law_1125 : decode mL_law.2.1 1125 = .ok (.aload_n 1, 1) := by decide +kernel
theorem dL_law_1126 : decode mL_law.2.1 1126 = .ok (.aload_n 0, 1) := by decide +kernel
theorem dL_law_1127 : decode mL_law.2.1 1127 = .ok (.iload_n 3, 1) := by decide +kernel
theorem dL_law_1128 : decode mL_law.2.1 1128 = .ok (.iconst 1, 1) := by decide +kernel
theorem dL_law_1129 : decode mL_law.2.1 1129 = .ok (.iadd, 1) := by decide +kernel
theorem dL_law_1130 : decode mL_law.2.1 1130 = .ok (.iaload, 1) := by decide +kernel
theorem dL_law_1131 : decode mL_law.2.1 1131 = .ok (.invokevirtual 134, 3) := by decide +kernel
theorem dL_law_1134 : decode mL_law.2.1 1134 = .ok (.aload_n 2, 1) := by decide +kernel
theorem dL_law_1135 : decode mL_law.2.1 1135 = .ok (.aload_n 0, 1) := by decide +kernel
theorem dL_law_1136 : decode mL_law.2.1 1136 = .ok (.iload_n 3, 1) := by decide +kernel
theorem dL_law_1137 : decode mL_law.2.1 1137 = .ok (.iconst 1, 1) := by decide +kernel
theorem dL_law_1138 : decode mL_law.2.1 1138 = .ok (.iadd, 1) := by decide +kernel
theorem dL_law_1139 : decode mL_law.2.1 1139 = .ok (.iaload, 1) := by decide +kernel
theorem dL_law_1140 : decode mL_law.2.1 1140 = .ok (.invokevirtual 137, 3) := by decide +kernel
theorem dL_law_1143 : decode mL_law.2.1 1143 = .ok (.if_icmp .eq 5, 3) := by decide +kernel
theorem dL_law_1146 : decode mL_law.2.1 1146 = .ok (.iconst 0, 1) := by decide +kernel
theorem dL_law_1147 : decode mL_law.2.1 1147 = .ok (.ireturn, 1) := by decide +kernel
theorem dL_law_1148 : decode mL_law.2.1 1148 = .ok (.iinc 3 5, 3) := by decide +kernel
theorem dL_law_1151 : decode mL_law.2.1 1151 = .ok (.goto (-1133), 3) := by decide +kernel
theorem dL_law_1154 : decode mL_law.2.1 1154 = .ok (.iconst 1, 1) := by decide +kernel
theorem dL_law_1155 : decode mL_law.2.1 1155 = .ok (.ireturn, 1) := by decide +kernel
end
section
abbrev ok_r (sh : SH) (mr : MR) (r : Int32) (mi2 : MI) : PO := fun v sh2 mi3 mr2 => v = some (pv_i r) ∧ sh2 = sh ∧ mi3 = mi2 ∧ mr2 = mr
abbrev ok_q (sh : SH) (mr : MR) (r : Option Nat) (mi2 : MI) : PO := fun v sh2 mi3 mr2 => v = some (pv_q r) ∧ sh2 = sh ∧ mi3 = mi2 ∧ mr2 = mr
abbrev ok_n (sh : SH) (mr : MR) (mi2 : MI) : PO := fun v sh2 mi3 mr2 => v = none ∧ sh2 = sh ∧ mi3 = mi2 ∧ mr2 = mr
def bi (c : Prop) [Decidable c] : Int32 := if c then 1 else 0
theorem bi_0 {c : Prop} [Decidable c] : bi c = 0 ↔ ¬ c := by unfold bi; split <;> simp_all
theorem bi_1 {c : Prop} [Decidable c] (h : c) : bi c = 1 := if_pos h
theorem bi_f {c : Prop} [Decidable c] (h : ¬ c) : bi c = 0 := if_neg h
theorem bi_nar {c : Prop} [Decidable c] : narrow .boolean (.int (bi c)) = .int (bi c) := by unfold bi; split <;> rfl
section EVT
variable {X : Option (Nat × (Nat → Int32))} {d mc ms : Nat} {M N : MD} {pc : Nat} {L : List (Option PV)} {S : List PV} {sh : SH} {mi mi2 : MI} {mr : MR} {Po : PO} {d1 idx ci k : Nat} {r : Int32} {rq : Option Nat} {a1 a2 a3 a4 a5 a6 : PV}
theorem ev_max {x y : Int32} (hd : decode M.2.1 pc = .ok (.invokestatic idx, 3)) (hw : Cond.methodLink M.1.cls idx Lib.Math.max.name ∈ tb_w ∧ Cond.static Lib.Math.max.name ∈ tb_w ∧ Cond.initialized "java/lang/Math" ∈ tb_w ∧ Cond.code Lib.Math.max.name Lib.Math.max.code 2 (some .int) ∈ tb_w) (h1 : 1 ≤ d) (h8 : S.length ≤ 8) (kk : EV X d mc ms M (pc + 3) L (pv_i (if x < y then y else x) :: S) sh mi mr Po) : EV X d mc ms M pc L (pv_i y :: pv_i x :: S) sh mi mr Po :=
  fun p l e R s mid args below meth c D cA A b Q ad H locs cells slots ls hC hX hR hW hl hr2 => va_mmax hC.1 hC.2.1 (hC.2.2.2.1.trans hl.1.symm) hC.2.2.2.2.1 (hC.2.2.2.2.2.1 _ hw.1) (hC.2.2.2.2.2.1 _ hw.2.1) (hC.2.2.2.2.2.1 _ hw.2.2.1) (hC.2.2.2.2.2.1 _ hw.2.2.2) (by omega) (by rw [st_sum]; omega) (by omega) (by omega) hd (kk p l e R s mid args below meth c D cA A b Q ad H locs cells slots ls hC hX hR hW hl hr2)
theorem ev_v0i (hd : decode M.2.1 pc = .ok (.invokevirtual idx, 3)) (hc : cv_c M.1.cls idx N ci 0) (hs : sh[k]? = some (.inl ci)) (h8 : S.length ≤ 8) (hd1 : d1 < d) (hcall : EV none d1 0 0 N 0 (en_l N [pv_r k]) [] sh mi mr (ok_r sh mr r mi2)) (kk : EV X d mc ms M (pc + 3) L (pv_i r :: S) sh mi2 mr Po) : EV X d mc ms M pc L (pv_r k :: S) sh mi mr Po :=
  ev_callv (av := []) hd hc hs rfl rfl h8 hd1 (Or.inl (fun v sh2 mi3 mr2 h => by rw [h.2.1])) (Nat.zero_add _) (Nat.zero_add _) hcall (fun v sh2 mi3 mr2 h => by obtain ⟨rfl, rfl, rfl, rfl⟩ := h; exact kk)
theorem ev_s0i (hd : decode M.2.1 pc = .ok (.invokestatic idx, 3)) (hc : cs_c M.1.cls idx N 0) (h8 : S.length ≤ 8) (hd1 : d1 < d) (hcall : EV none d1 0 0 N 0 (en_l N []) [] sh mi mr (ok_r sh mr r mi2)) (kk : EV X d mc ms M (pc + 3) L (pv_i r :: S) sh mi2 mr Po) : EV X d mc ms M pc L (S) sh mi mr Po :=
  ev_calls (av := []) hd hc rfl rfl h8 hd1 (Or.inl (fun v sh2 mi3 mr2 h => by rw [h.2.1])) (Nat.zero_add _) (Nat.zero_add _) hcall (fun v sh2 mi3 mr2 h => by obtain ⟨rfl, rfl, rfl, rfl⟩ := h; exact kk)
theorem ev_t0i (hd : decode M.2.1 pc = .ok (.invokestatic idx, 3)) (hc : cn_c M.1.cls idx N 0) (h8 : S.length ≤ 8) (hd1 : d1 < d) (hcall : EV none d1 0 0 N 0 (en_l N []) [] sh mi mr (ok_r sh mr r mi2)) (kk : EV X d mc ms M (pc + 3) L (pv_i r :: S) sh mi2 mr Po) : EV X d mc ms M pc L (S) sh mi mr Po :=
  ev_calln (av := []) hd hc rfl rfl h8 hd1 (Or.inl (fun v sh2 mi3 mr2 h => by rw [h.2.1])) (Nat.zero_add _) (Nat.zero_add _) hcall (fun v sh2 mi3 mr2 h => by obtain ⟨rfl, rfl, rfl, rfl⟩ := h; exact kk)
theorem ev_v0q (hd : decode M.2.1 pc = .ok (.invokevirtual idx, 3)) (hc : cv_c M.1.cls idx N ci 0) (hs : sh[k]? = some (.inl ci)) (h8 : S.length ≤ 8) (hd1 : d1 < d) (hcall : EV none d1 0 0 N 0 (en_l N [pv_r k]) [] sh mi mr (ok_q sh mr rq mi2)) (kk : EV X d mc ms M (pc + 3) L (pv_q rq :: S) sh mi2 mr Po) : EV X d mc ms M pc L (pv_r k :: S) sh mi mr Po :=
  ev_callv (av := []) hd hc hs rfl rfl h8 hd1 (Or.inl (fun v sh2 mi3 mr2 h => by rw [h.2.1])) (Nat.zero_add _) (Nat.zero_add _) hcall (fun v sh2 mi3 mr2 h => by obtain ⟨rfl, rfl, rfl, rfl⟩ := h; exact kk)
theorem ev_s0q (hd : decode M.2.1 pc = .ok (.invokestatic idx, 3)) (hc : cs_c M.1.cls idx N 0) (h8 : S.length ≤ 8) (hd1 : d1 < d) (hcall : EV none d1 0 0 N 0 (en_l N []) [] sh mi mr (ok_q sh mr rq mi2)) (kk : EV X d mc ms M (pc + 3) L (pv_q rq :: S) sh mi2 mr Po) : EV X d mc ms M pc L (S) sh mi mr Po :=
  ev_calls (av := []) hd hc rfl rfl h8 hd1 (Or.inl (fun v sh2 mi3 mr2 h => by rw [h.2.1])) (Nat.zero_add _) (Nat.zero_add _) hcall (fun v sh2 mi3 mr2 h => by obtain ⟨rfl, rfl, rfl, rfl⟩ := h; exact kk)
theorem ev_t0q (hd : decode M.2.1 pc = .ok (.invokestatic idx, 3)) (hc : cn_c M.1.cls idx N 0) (h8 : S.length ≤ 8) (hd1 : d1 < d) (hcall : EV none d1 0 0 N 0 (en_l N []) [] sh mi mr (ok_q sh mr rq mi2)) (kk : EV X d mc ms M (pc + 3) L (pv_q rq :: S) sh mi2 mr Po) : EV X d mc ms M pc L (S) sh mi mr Po :=
  ev_calln (av := []) hd hc rfl rfl h8 hd1 (Or.inl (fun v sh2 mi3 mr2 h => by rw [h.2.1])) (Nat.zero_add _) (Nat.zero_add _) hcall (fun v sh2 mi3 mr2 h => by obtain ⟨rfl, rfl, rfl, rfl⟩ := h; exact kk)
theorem ev_v0n (hd : decode M.2.1 pc = .ok (.invokevirtual idx, 3)) (hc : cv_c M.1.cls idx N ci 0) (hs : sh[k]? = some (.inl ci)) (h8 : S.length ≤ 8) (hd1 : d1 < d) (hcall : EV none d1 0 0 N 0 (en_l N [pv_r k]) [] sh mi mr (ok_n sh mr mi2)) (kk : EV X d mc ms M (pc + 3) L (S) sh mi2 mr Po) : EV X d mc ms M pc L (pv_r k :: S) sh mi mr Po :=
  ev_callv (av := []) hd hc hs rfl rfl h8 hd1 (Or.inl (fun v sh2 mi3 mr2 h => by rw [h.2.1])) (Nat.zero_add _) (Nat.zero_add _) hcall (fun v sh2 mi3 mr2 h => by obtain ⟨rfl, rfl, rfl, rfl⟩ := h; exact kk)
theorem ev_s0n (hd : decode M.2.1 pc = .ok (.invokestatic idx, 3)) (hc : cs_c M.1.cls idx N 0) (h8 : S.length ≤ 8) (hd1 : d1 < d) (hcall : EV none d1 0 0 N 0 (en_l N []) [] sh mi mr (ok_n sh mr mi2)) (kk : EV X d mc ms M (pc + 3) L (S) sh mi2 mr Po) : EV X d mc ms M pc L (S) sh mi mr Po :=
  ev_calls (av := []) hd hc rfl rfl h8 hd1 (Or.inl (fun v sh2 mi3 mr2 h => by rw [h.2.1])) (Nat.zero_add _) (Nat.zero_add _) hcall (fun v sh2 mi3 mr2 h => by obtain ⟨rfl, rfl, rfl, rfl⟩ := h; exact kk)
theorem ev_t0n (hd : decode M.2.1 pc = .ok (.invokestatic idx, 3)) (hc : cn_c M.1.cls idx N 0) (h8 : S.length ≤ 8) (hd1 : d1 < d) (hcall : EV none d1 0 0 N 0 (en_l N []) [] sh mi mr (ok_n sh mr mi2)) (kk : EV X d mc ms M (pc + 3) L (S) sh mi2 mr Po) : EV X d mc ms M pc L (S) sh mi mr Po :=
  ev_calln (av := []) hd hc rfl rfl h8 hd1 (Or.inl (fun v sh2 mi3 mr2 h => by rw [h.2.1])) (Nat.zero_add _) (Nat.zero_add _) hcall (fun v sh2 mi3 mr2 h => by obtain ⟨rfl, rfl, rfl, rfl⟩ := h; exact kk)
theorem ev_v1i (hd : decode M.2.1 pc = .ok (.invokevirtual idx, 3)) (hc : cv_c M.1.cls idx N ci 1) (hs : sh[k]? = some (.inl ci)) (h8 : S.length ≤ 8) (hd1 : d1 < d) (hcall : EV none d1 0 0 N 0 (en_l N [pv_r k, a1]) [] sh mi mr (ok_r sh mr r mi2)) (kk : EV X d mc ms M (pc + 3) L (pv_i r :: S) sh mi2 mr Po) : EV X d mc ms M pc L (a1 :: pv_r k :: S) sh mi mr Po :=
  ev_callv (av := [a1]) hd hc hs rfl rfl h8 hd1 (Or.inl (fun v sh2 mi3 mr2 h => by rw [h.2.1])) (Nat.zero_add _) (Nat.zero_add _) hcall (fun v sh2 mi3 mr2 h => by obtain ⟨rfl, rfl, rfl, rfl⟩ := h; exact kk)
theorem ev_s1i (hd : decode M.2.1 pc = .ok (.invokestatic idx, 3)) (hc : cs_c M.1.cls idx N 1) (h8 : S.length ≤ 8) (hd1 : d1 < d) (hcall : EV none d1 0 0 N 0 (en_l N [a1]) [] sh mi mr (ok_r sh mr r mi2)) (kk : EV X d mc ms M (pc + 3) L (pv_i r :: S) sh mi2 mr Po) : EV X d mc ms M pc L (a1 :: S) sh mi mr Po :=
  ev_calls (av := [a1]) hd hc rfl rfl h8 hd1 (Or.inl (fun v sh2 mi3 mr2 h => by rw [h.2.1])) (Nat.zero_add _) (Nat.zero_add _) hcall (fun v sh2 mi3 mr2 h => by obtain ⟨rfl, rfl, rfl, rfl⟩ := h; exact kk)
theorem ev_t1i (hd : decode M.2.1 pc = .ok (.invokestatic idx, 3)) (hc : cn_c M.1.cls idx N 1) (h8 : S.length ≤ 8) (hd1 : d1 < d) (hcall : EV none d1 0 0 N 0 (en_l N [a1]) [] sh mi mr (ok_r sh mr r mi2)) (kk : EV X d mc ms M (pc + 3) L (pv_i r :: S) sh mi2 mr Po) : EV X d mc ms M pc L (a1 :: S) sh mi mr Po :=
  ev_calln (av := [a1]) hd hc rfl rfl h8 hd1 (Or.inl (fun v sh2 mi3 mr2 h => by rw [h.2.1])) (Nat.zero_add _) (Nat.zero_add _) hcall (fun v sh2 mi3 mr2 h => by obtain ⟨rfl, rfl, rfl, rfl⟩ := h; exact kk)
theorem ev_v1q (hd : decode M.2.1 pc = .ok (.invokevirtual idx, 3)) (hc : cv_c M.1.cls idx N ci 1) (hs : sh[k]? = some (.inl ci)) (h8 : S.length ≤ 8) (hd1 : d1 < d) (hcall : EV none d1 0 0 N 0 (en_l N [pv_r k, a1]) [] sh mi mr (ok_q sh mr rq mi2)) (kk : EV X d mc ms M (pc + 3) L (pv_q rq :: S) sh mi2 mr Po) : EV X d mc ms M pc L (a1 :: pv_r k :: S) sh mi mr Po :=
  ev_callv (av := [a1]) hd hc hs rfl rfl h8 hd1 (Or.inl (fun v sh2 mi3 mr2 h => by rw [h.2.1])) (Nat.zero_add _) (Nat.zero_add _) hcall (fun v sh2 mi3 mr2 h => by obtain ⟨rfl, rfl, rfl, rfl⟩ := h; exact kk)
theorem ev_s1q (hd : decode M.2.1 pc = .ok (.invokestatic idx, 3)) (hc : cs_c M.1.cls idx N 1) (h8 : S.length ≤ 8) (hd1 : d1 < d) (hcall : EV none d1 0 0 N 0 (en_l N [a1]) [] sh mi mr (ok_q sh mr rq mi2)) (kk : EV X d mc ms M (pc + 3) L (pv_q rq :: S) sh mi2 mr Po) : EV X d mc ms M pc L (a1 :: S) sh mi mr Po :=
  ev_calls (av := [a1]) hd hc rfl rfl h8 hd1 (Or.inl (fun v sh2 mi3 mr2 h => by rw [h.2.1])) (Nat.zero_add _) (Nat.zero_add _) hcall (fun v sh2 mi3 mr2 h => by obtain ⟨rfl, rfl, rfl, rfl⟩ := h; exact kk)
theorem ev_t1q (hd : decode M.2.1 pc = .ok (.invokestatic idx, 3)) (hc : cn_c M.1.cls idx N 1) (h8 : S.length ≤ 8) (hd1 : d1 < d) (hcall : EV none d1 0 0 N 0 (en_l N [a1]) [] sh mi mr (ok_q sh mr rq mi2)) (kk : EV X d mc ms M (pc + 3) L (pv_q rq :: S) sh mi2 mr Po) : EV X d mc ms M pc L (a1 :: S) sh mi mr Po :=
  ev_calln (av := [a1]) hd hc rfl rfl h8 hd1 (Or.inl (fun v sh2 mi3 mr2 h => by rw [h.2.1])) (Nat.zero_add _) (Nat.zero_add _) hcall (fun v sh2 mi3 mr2 h => by obtain ⟨rfl, rfl, rfl, rfl⟩ := h; exact kk)
theorem ev_v1n (hd : decode M.2.1 pc = .ok (.invokevirtual idx, 3)) (hc : cv_c M.1.cls idx N ci 1) (hs : sh[k]? = some (.inl ci)) (h8 : S.length ≤ 8) (hd1 : d1 < d) (hcall : EV none d1 0 0 N 0 (en_l N [pv_r k, a1]) [] sh mi mr (ok_n sh mr mi2)) (kk : EV X d mc ms M (pc + 3) L (S) sh mi2 mr Po) : EV X d mc ms M pc L (a1 :: pv_r k :: S) sh mi mr Po :=
  ev_callv (av := [a1]) hd hc hs rfl rfl h8 hd1 (Or.inl (fun v sh2 mi3 mr2 h => by rw [h.2.1])) (Nat.zero_add _) (Nat.zero_add _) hcall (fun v sh2 mi3 mr2 h => by obtain ⟨rfl, rfl, rfl, rfl⟩ := h; exact kk)
theorem ev_s1n (hd : decode M.2.1 pc = .ok (.invokestatic idx, 3)) (hc : cs_c M.1.cls idx N 1) (h8 : S.length ≤ 8) (hd1 : d1 < d) (hcall : EV none d1 0 0 N 0 (en_l N [a1]) [] sh mi mr (ok_n sh mr mi2)) (kk : EV X d mc ms M (pc + 3) L (S) sh mi2 mr Po) : EV X d mc ms M pc L (a1 :: S) sh mi mr Po :=
  ev_calls (av := [a1]) hd hc rfl rfl h8 hd1 (Or.inl (fun v sh2 mi3 mr2 h => by rw [h.2.1])) (Nat.zero_add _) (Nat.zero_add _) hcall (fun v sh2 mi3 mr2 h => by obtain ⟨rfl, rfl, rfl, rfl⟩ := h; exact kk)
theorem ev_t1n (hd : decode M.2.1 pc = .ok (.invokestatic idx, 3)) (hc : cn_c M.1.cls idx N 1) (h8 : S.length ≤ 8) (hd1 : d1 < d) (hcall : EV none d1 0 0 N 0 (en_l N [a1]) [] sh mi mr (ok_n sh mr mi2)) (kk : EV X d mc ms M (pc + 3) L (S) sh mi2 mr Po) : EV X d mc ms M pc L (a1 :: S) sh mi mr Po :=
  ev_calln (av := [a1]) hd hc rfl rfl h8 hd1 (Or.inl (fun v sh2 mi3 mr2 h => by rw [h.2.1])) (Nat.zero_add _) (Nat.zero_add _) hcall (fun v sh2 mi3 mr2 h => by obtain ⟨rfl, rfl, rfl, rfl⟩ := h; exact kk)
theorem ev_v2i (hd : decode M.2.1 pc = .ok (.invokevirtual idx, 3)) (hc : cv_c M.1.cls idx N ci 2) (hs : sh[k]? = some (.inl ci)) (h8 : S.length ≤ 8) (hd1 : d1 < d) (hcall : EV none d1 0 0 N 0 (en_l N [pv_r k, a1, a2]) [] sh mi mr (ok_r sh mr r mi2)) (kk : EV X d mc ms M (pc + 3) L (pv_i r :: S) sh mi2 mr Po) : EV X d mc ms M pc L (a2 :: a1 :: pv_r k :: S) sh mi mr Po :=
  ev_callv (av := [a1, a2]) hd hc hs rfl rfl h8 hd1 (Or.inl (fun v sh2 mi3 mr2 h => by rw [h.2.1])) (Nat.zero_add _) (Nat.zero_add _) hcall (fun v sh2 mi3 mr2 h => by obtain ⟨rfl, rfl, rfl, rfl⟩ := h; exact kk)
theorem ev_s2i (hd : decode M.2.1 pc = .ok (.invokestatic idx, 3)) (hc : cs_c M.1.cls idx N 2) (h8 : S.length ≤ 8) (hd1 : d1 < d) (hcall : EV none d1 0 0 N 0 (en_l N [a1, a2]) [] sh mi mr (ok_r sh mr r mi2)) (kk : EV X d mc ms M (pc + 3) L (pv_i r :: S) sh mi2 mr Po) : EV X d mc ms M pc L (a2 :: a1 :: S) sh mi mr Po :=
  ev_calls (av := [a1, a2]) hd hc rfl rfl h8 hd1 (Or.inl (fun v sh2 mi3 mr2 h => by rw [h.2.1])) (Nat.zero_add _) (Nat.zero_add _) hcall (fun v sh2 mi3 mr2 h => by obtain ⟨rfl, rfl, rfl, rfl⟩ := h; exact kk)
theorem ev_t2i (hd : decode M.2.1 pc = .ok (.invokestatic idx, 3)) (hc : cn_c M.1.cls idx N 2) (h8 : S.length ≤ 8) (hd1 : d1 < d) (hcall : EV none d1 0 0 N 0 (en_l N [a1, a2]) [] sh mi mr (ok_r sh mr r mi2)) (kk : EV X d mc ms M (pc + 3) L (pv_i r :: S) sh mi2 mr Po) : EV X d mc ms M pc L (a2 :: a1 :: S) sh mi mr Po :=
  ev_calln (av := [a1, a2]) hd hc rfl rfl h8 hd1 (Or.inl (fun v sh2 mi3 mr2 h => by rw [h.2.1])) (Nat.zero_add _) (Nat.zero_add _) hcall (fun v sh2 mi3 mr2 h => by obtain ⟨rfl, rfl, rfl, rfl⟩ := h; exact kk)
theorem ev_v2q (hd : decode M.2.1 pc = .ok (.invokevirtual idx, 3)) (hc : cv_c M.1.cls idx N ci 2) (hs : sh[k]? = some (.inl ci)) (h8 : S.length ≤ 8) (hd1 : d1 < d) (hcall : EV none d1 0 0 N 0 (en_l N [pv_r k, a1, a2]) [] sh mi mr (ok_q sh mr rq mi2)) (kk : EV X d mc ms M (pc + 3) L (pv_q rq :: S) sh mi2 mr Po) : EV X d mc ms M pc L (a2 :: a1 :: pv_r k :: S) sh mi mr Po :=
  ev_callv (av := [a1, a2]) hd hc hs rfl rfl h8 hd1 (Or.inl (fun v sh2 mi3 mr2 h => by rw [h.2.1])) (Nat.zero_add _) (Nat.zero_add _) hcall (fun v sh2 mi3 mr2 h => by obtain ⟨rfl, rfl, rfl, rfl⟩ := h; exact kk)
theorem ev_s2q (hd : decode M.2.1 pc = .ok (.invokestatic idx, 3)) (hc : cs_c M.1.cls idx N 2) (h8 : S.length ≤ 8) (hd1 : d1 < d) (hcall : EV none d1 0 0 N 0 (en_l N [a1, a2]) [] sh mi mr (ok_q sh mr rq mi2)) (kk : EV X d mc ms M (pc + 3) L (pv_q rq :: S) sh mi2 mr Po) : EV X d mc ms M pc L (a2 :: a1 :: S) sh mi mr Po :=
  ev_calls (av := [a1, a2]) hd hc rfl rfl h8 hd1 (Or.inl (fun v sh2 mi3 mr2 h => by rw [h.2.1])) (Nat.zero_add _) (Nat.zero_add _) hcall (fun v sh2 mi3 mr2 h => by obtain ⟨rfl, rfl, rfl, rfl⟩ := h; exact kk)
theorem ev_t2q (hd : decode M.2.1 pc = .ok (.invokestatic idx, 3)) (hc : cn_c M.1.cls idx N 2) (h8 : S.length ≤ 8) (hd1 : d1 < d) (hcall : EV none d1 0 0 N 0 (en_l N [a1, a2]) [] sh mi mr (ok_q sh mr rq mi2)) (kk : EV X d mc ms M (pc + 3) L (pv_q rq :: S) sh mi2 mr Po) : EV X d mc ms M pc L (a2 :: a1 :: S) sh mi mr Po :=
  ev_calln (av := [a1, a2]) hd hc rfl rfl h8 hd1 (Or.inl (fun v sh2 mi3 mr2 h => by rw [h.2.1])) (Nat.zero_add _) (Nat.zero_add _) hcall (fun v sh2 mi3 mr2 h => by obtain ⟨rfl, rfl, rfl, rfl⟩ := h; exact kk)
theorem ev_v2n (hd : decode M.2.1 pc = .ok (.invokevirtual idx, 3)) (hc : cv_c M.1.cls idx N ci 2) (hs : sh[k]? = some (.inl ci)) (h8 : S.length ≤ 8) (hd1 : d1 < d) (hcall : EV none d1 0 0 N 0 (en_l N [pv_r k, a1, a2]) [] sh mi mr (ok_n sh mr mi2)) (kk : EV X d mc ms M (pc + 3) L (S) sh mi2 mr Po) : EV X d mc ms M pc L (a2 :: a1 :: pv_r k :: S) sh mi mr Po :=
  ev_callv (av := [a1, a2]) hd hc hs rfl rfl h8 hd1 (Or.inl (fun v sh2 mi3 mr2 h => by rw [h.2.1])) (Nat.zero_add _) (Nat.zero_add _) hcall (fun v sh2 mi3 mr2 h => by obtain ⟨rfl, rfl, rfl, rfl⟩ := h; exact kk)
theorem ev_s2n (hd : decode M.2.1 pc = .ok (.invokestatic idx, 3)) (hc : cs_c M.1.cls idx N 2) (h8 : S.length ≤ 8) (hd1 : d1 < d) (hcall : EV none d1 0 0 N 0 (en_l N [a1, a2]) [] sh mi mr (ok_n sh mr mi2)) (kk : EV X d mc ms M (pc + 3) L (S) sh mi2 mr Po) : EV X d mc ms M pc L (a2 :: a1 :: S) sh mi mr Po :=
  ev_calls (av := [a1, a2]) hd hc rfl rfl h8 hd1 (Or.inl (fun v sh2 mi3 mr2 h => by rw [h.2.1])) (Nat.zero_add _) (Nat.zero_add _) hcall (fun v sh2 mi3 mr2 h => by obtain ⟨rfl, rfl, rfl, rfl⟩ := h; exact kk)
theorem ev_t2n (hd : decode M.2.1 pc = .ok (.invokestatic idx, 3)) (hc : cn_c M.1.cls idx N 2) (h8 : S.length ≤ 8) (hd1 : d1 < d) (hcall : EV none d1 0 0 N 0 (en_l N [a1, a2]) [] sh mi mr (ok_n sh mr mi2)) (kk : EV X d mc ms M (pc + 3) L (S) sh mi2 mr Po) : EV X d mc ms M pc L (a2 :: a1 :: S) sh mi mr Po :=
  ev_calln (av := [a1, a2]) hd hc rfl rfl h8 hd1 (Or.inl (fun v sh2 mi3 mr2 h => by rw [h.2.1])) (Nat.zero_add _) (Nat.zero_add _) hcall (fun v sh2 mi3 mr2 h => by obtain ⟨rfl, rfl, rfl, rfl⟩ := h; exact kk)
theorem ev_v3i (hd : decode M.2.1 pc = .ok (.invokevirtual idx, 3)) (hc : cv_c M.1.cls idx N ci 3) (hs : sh[k]? = some (.inl ci)) (h8 : S.length ≤ 8) (hd1 : d1 < d) (hcall : EV none d1 0 0 N 0 (en_l N [pv_r k, a1, a2, a3]) [] sh mi mr (ok_r sh mr r mi2)) (kk : EV X d mc ms M (pc + 3) L (pv_i r :: S) sh mi2 mr Po) : EV X d mc ms M pc L (a3 :: a2 :: a1 :: pv_r k :: S) sh mi mr Po :=
  ev_callv (av := [a1, a2, a3]) hd hc hs rfl rfl h8 hd1 (Or.inl (fun v sh2 mi3 mr2 h => by rw [h.2.1])) (Nat.zero_add _) (Nat.zero_add _) hcall (fun v sh2 mi3 mr2 h => by obtain ⟨rfl, rfl, rfl, rfl⟩ := h; exact kk)
theorem ev_s3i (hd : decode M.2.1 pc = .ok (.invokestatic idx, 3)) (hc : cs_c M.1.cls idx N 3) (h8 : S.length ≤ 8) (hd1 : d1 < d) (hcall : EV none d1 0 0 N 0 (en_l N [a1, a2, a3]) [] sh mi mr (ok_r sh mr r mi2)) (kk : EV X d mc ms M (pc + 3) L (pv_i r :: S) sh mi2 mr Po) : EV X d mc ms M pc L (a3 :: a2 :: a1 :: S) sh mi mr Po :=
  ev_calls (av := [a1, a2, a3]) hd hc rfl rfl h8 hd1 (Or.inl (fun v sh2 mi3 mr2 h => by rw [h.2.1])) (Nat.zero_add _) (Nat.zero_add _) hcall (fun v sh2 mi3 mr2 h => by obtain ⟨rfl, rfl, rfl, rfl⟩ := h; exact kk)
theorem ev_t3i (hd : decode M.2.1 pc = .ok (.invokestatic idx, 3)) (hc : cn_c M.1.cls idx N 3) (h8 : S.length ≤ 8) (hd1 : d1 < d) (hcall : EV none d1 0 0 N 0 (en_l N [a1, a2, a3]) [] sh mi mr (ok_r sh mr r mi2)) (kk : EV X d mc ms M (pc + 3) L (pv_i r :: S) sh mi2 mr Po) : EV X d mc ms M pc L (a3 :: a2 :: a1 :: S) sh mi mr Po :=
  ev_calln (av := [a1, a2, a3]) hd hc rfl rfl h8 hd1 (Or.inl (fun v sh2 mi3 mr2 h => by rw [h.2.1])) (Nat.zero_add _) (Nat.zero_add _) hcall (fun v sh2 mi3 mr2 h => by obtain ⟨rfl, rfl, rfl, rfl⟩ := h; exact kk)
theorem ev_v3q (hd : decode M.2.1 pc = .ok (.invokevirtual idx, 3)) (hc : cv_c M.1.cls idx N ci 3) (hs : sh[k]? = some (.inl ci)) (h8 : S.length ≤ 8) (hd1 : d1 < d) (hcall : EV none d1 0 0 N 0 (en_l N [pv_r k, a1, a2, a3]) [] sh mi mr (ok_q sh mr rq mi2)) (kk : EV X d mc ms M (pc + 3) L (pv_q rq :: S) sh mi2 mr Po) : EV X d mc ms M pc L (a3 :: a2 :: a1 :: pv_r k :: S) sh mi mr Po :=
  ev_callv (av := [a1, a2, a3]) hd hc hs rfl rfl h8 hd1 (Or.inl (fun v sh2 mi3 mr2 h => by rw [h.2.1])) (Nat.zero_add _) (Nat.zero_add _) hcall (fun v sh2 mi3 mr2 h => by obtain ⟨rfl, rfl, rfl, rfl⟩ := h; exact kk)
theorem ev_s3q (hd : decode M.2.1 pc = .ok (.invokestatic idx, 3)) (hc : cs_c M.1.cls idx N 3) (h8 : S.length ≤ 8) (hd1 : d1 < d) (hcall : EV none d1 0 0 N 0 (en_l N [a1, a2, a3]) [] sh mi mr (ok_q sh mr rq mi2)) (kk : EV X d mc ms M (pc + 3) L (pv_q rq :: S) sh mi2 mr Po) : EV X d mc ms M pc L (a3 :: a2 :: a1 :: S) sh mi mr Po :=
  ev_calls (av := [a1, a2, a3]) hd hc rfl rfl h8 hd1 (Or.inl (fun v sh2 mi3 mr2 h => by rw [h.2.1])) (Nat.zero_add _) (Nat.zero_add _) hcall (fun v sh2 mi3 mr2 h => by obtain ⟨rfl, rfl, rfl, rfl⟩ := h; exact kk)
theorem ev_t3q (hd : decode M.2.1 pc = .ok (.invokestatic idx, 3)) (hc : cn_c M.1.cls idx N 3) (h8 : S.length ≤ 8) (hd1 : d1 < d) (hcall : EV none d1 0 0 N 0 (en_l N [a1, a2, a3]) [] sh mi mr (ok_q sh mr rq mi2)) (kk : EV X d mc ms M (pc + 3) L (pv_q rq :: S) sh mi2 mr Po) : EV X d mc ms M pc L (a3 :: a2 :: a1 :: S) sh mi mr Po :=
  ev_calln (av := [a1, a2, a3]) hd hc rfl rfl h8 hd1 (Or.inl (fun v sh2 mi3 mr2 h => by rw [h.2.1])) (Nat.zero_add _) (Nat.zero_add _) hcall (fun v sh2 mi3 mr2 h => by obtain ⟨rfl, rfl, rfl, rfl⟩ := h; exact kk)
theorem ev_v3n (hd : decode M.2.1 pc = .ok (.invokevirtual idx, 3)) (hc : cv_c M.1.cls idx N ci 3) (hs : sh[k]? = some (.inl ci)) (h8 : S.length ≤ 8) (hd1 : d1 < d) (hcall : EV none d1 0 0 N 0 (en_l N [pv_r k, a1, a2, a3]) [] sh mi mr (ok_n sh mr mi2)) (kk : EV X d mc ms M (pc + 3) L (S) sh mi2 mr Po) : EV X d mc ms M pc L (a3 :: a2 :: a1 :: pv_r k :: S) sh mi mr Po :=
  ev_callv (av := [a1, a2, a3]) hd hc hs rfl rfl h8 hd1 (Or.inl (fun v sh2 mi3 mr2 h => by rw [h.2.1])) (Nat.zero_add _) (Nat.zero_add _) hcall (fun v sh2 mi3 mr2 h => by obtain ⟨rfl, rfl, rfl, rfl⟩ := h; exact kk)
theorem ev_s3n (hd : decode M.2.1 pc = .ok (.invokestatic idx, 3)) (hc : cs_c M.1.cls idx N 3) (h8 : S.length ≤ 8) (hd1 : d1 < d) (hcall : EV none d1 0 0 N 0 (en_l N [a1, a2, a3]) [] sh mi mr (ok_n sh mr mi2)) (kk : EV X d mc ms M (pc + 3) L (S) sh mi2 mr Po) : EV X d mc ms M pc L (a3 :: a2 :: a1 :: S) sh mi mr Po :=
  ev_calls (av := [a1, a2, a3]) hd hc rfl rfl h8 hd1 (Or.inl (fun v sh2 mi3 mr2 h => by rw [h.2.1])) (Nat.zero_add _) (Nat.zero_add _) hcall (fun v sh2 mi3 mr2 h => by obtain ⟨rfl, rfl, rfl, rfl⟩ := h; exact kk)
theorem ev_t3n (hd : decode M.2.1 pc = .ok (.invokestatic idx, 3)) (hc : cn_c M.1.cls idx N 3) (h8 : S.length ≤ 8) (hd1 : d1 < d) (hcall : EV none d1 0 0 N 0 (en_l N [a1, a2, a3]) [] sh mi mr (ok_n sh mr mi2)) (kk : EV X d mc ms M (pc + 3) L (S) sh mi2 mr Po) : EV X d mc ms M pc L (a3 :: a2 :: a1 :: S) sh mi mr Po :=
  ev_calln (av := [a1, a2, a3]) hd hc rfl rfl h8 hd1 (Or.inl (fun v sh2 mi3 mr2 h => by rw [h.2.1])) (Nat.zero_add _) (Nat.zero_add _) hcall (fun v sh2 mi3 mr2 h => by obtain ⟨rfl, rfl, rfl, rfl⟩ := h; exact kk)
theorem ev_v4i (hd : decode M.2.1 pc = .ok (.invokevirtual idx, 3)) (hc : cv_c M.1.cls idx N ci 4) (hs : sh[k]? = some (.inl ci)) (h8 : S.length ≤ 8) (hd1 : d1 < d) (hcall : EV none d1 0 0 N 0 (en_l N [pv_r k, a1, a2, a3, a4]) [] sh mi mr (ok_r sh mr r mi2)) (kk : EV X d mc ms M (pc + 3) L (pv_i r :: S) sh mi2 mr Po) : EV X d mc ms M pc L (a4 :: a3 :: a2 :: a1 :: pv_r k :: S) sh mi mr Po :=
  ev_callv (av := [a1, a2, a3, a4]) hd hc hs rfl rfl h8 hd1 (Or.inl (fun v sh2 mi3 mr2 h => by rw [h.2.1])) (Nat.zero_add _) (Nat.zero_add _) hcall (fun v sh2 mi3 mr2 h => by obtain ⟨rfl, rfl, rfl, rfl⟩ := h; exact kk)
theorem ev_s4i (hd : decode M.2.1 pc = .ok (.invokestatic idx, 3)) (hc : cs_c M.1.cls idx N 4) (h8 : S.length ≤ 8) (hd1 : d1 < d) (hcall : EV none d1 0 0 N 0 (en_l N [a1, a2, a3, a4]) [] sh mi mr (ok_r sh mr r mi2)) (kk : EV X d mc ms M (pc + 3) L (pv_i r :: S) sh mi2 mr Po) : EV X d mc ms M pc L (a4 :: a3 :: a2 :: a1 :: S) sh mi mr Po :=
  ev_calls (av := [a1, a2, a3, a4]) hd hc rfl rfl h8 hd1 (Or.inl (fun v sh2 mi3 mr2 h => by rw [h.2.1])) (Nat.zero_add _) (Nat.zero_add _) hcall (fun v sh2 mi3 mr2 h => by obtain ⟨rfl, rfl, rfl, rfl⟩ := h; exact kk)
theorem ev_t4i (hd : decode M.2.1 pc = .ok (.invokestatic idx, 3)) (hc : cn_c M.1.cls idx N 4) (h8 : S.length ≤ 8) (hd1 : d1 < d) (hcall : EV none d1 0 0 N 0 (en_l N [a1, a2, a3, a4]) [] sh mi mr (ok_r sh mr r mi2)) (kk : EV X d mc ms M (pc + 3) L (pv_i r :: S) sh mi2 mr Po) : EV X d mc ms M pc L (a4 :: a3 :: a2 :: a1 :: S) sh mi mr Po :=
  ev_calln (av := [a1, a2, a3, a4]) hd hc rfl rfl h8 hd1 (Or.inl (fun v sh2 mi3 mr2 h => by rw [h.2.1])) (Nat.zero_add _) (Nat.zero_add _) hcall (fun v sh2 mi3 mr2 h => by obtain ⟨rfl, rfl, rfl, rfl⟩ := h; exact kk)
theorem ev_v4q (hd : decode M.2.1 pc = .ok (.invokevirtual idx, 3)) (hc : cv_c M.1.cls idx N ci 4) (hs : sh[k]? = some (.inl ci)) (h8 : S.length ≤ 8) (hd1 : d1 < d) (hcall : EV none d1 0 0 N 0 (en_l N [pv_r k, a1, a2, a3, a4]) [] sh mi mr (ok_q sh mr rq mi2)) (kk : EV X d mc ms M (pc + 3) L (pv_q rq :: S) sh mi2 mr Po) : EV X d mc ms M pc L (a4 :: a3 :: a2 :: a1 :: pv_r k :: S) sh mi mr Po :=
  ev_callv (av := [a1, a2, a3, a4]) hd hc hs rfl rfl h8 hd1 (Or.inl (fun v sh2 mi3 mr2 h => by rw [h.2.1])) (Nat.zero_add _) (Nat.zero_add _) hcall (fun v sh2 mi3 mr2 h => by obtain ⟨rfl, rfl, rfl, rfl⟩ := h; exact kk)
theorem ev_s4q (hd : decode M.2.1 pc = .ok (.invokestatic idx, 3)) (hc : cs_c M.1.cls idx N 4) (h8 : S.length ≤ 8) (hd1 : d1 < d) (hcall : EV none d1 0 0 N 0 (en_l N [a1, a2, a3, a4]) [] sh mi mr (ok_q sh mr rq mi2)) (kk : EV X d mc ms M (pc + 3) L (pv_q rq :: S) sh mi2 mr Po) : EV X d mc ms M pc L (a4 :: a3 :: a2 :: a1 :: S) sh mi mr Po :=
  ev_calls (av := [a1, a2, a3, a4]) hd hc rfl rfl h8 hd1 (Or.inl (fun v sh2 mi3 mr2 h => by rw [h.2.1])) (Nat.zero_add _) (Nat.zero_add _) hcall (fun v sh2 mi3 mr2 h => by obtain ⟨rfl, rfl, rfl, rfl⟩ := h; exact kk)
theorem ev_t4q (hd : decode M.2.1 pc = .ok (.invokestatic idx, 3)) (hc : cn_c M.1.cls idx N 4) (h8 : S.length ≤ 8) (hd1 : d1 < d) (hcall : EV none d1 0 0 N 0 (en_l N [a1, a2, a3, a4]) [] sh mi mr (ok_q sh mr rq mi2)) (kk : EV X d mc ms M (pc + 3) L (pv_q rq :: S) sh mi2 mr Po) : EV X d mc ms M pc L (a4 :: a3 :: a2 :: a1 :: S) sh mi mr Po :=
  ev_calln (av := [a1, a2, a3, a4]) hd hc rfl rfl h8 hd1 (Or.inl (fun v sh2 mi3 mr2 h => by rw [h.2.1])) (Nat.zero_add _) (Nat.zero_add _) hcall (fun v sh2 mi3 mr2 h => by obtain ⟨rfl, rfl, rfl, rfl⟩ := h; exact kk)
theorem ev_v4n (hd : decode M.2.1 pc = .ok (.invokevirtual idx, 3)) (hc : cv_c M.1.cls idx N ci 4) (hs : sh[k]? = some (.inl ci)) (h8 : S.length ≤ 8) (hd1 : d1 < d) (hcall : EV none d1 0 0 N 0 (en_l N [pv_r k, a1, a2, a3, a4]) [] sh mi mr (ok_n sh mr mi2)) (kk : EV X d mc ms M (pc + 3) L (S) sh mi2 mr Po) : EV X d mc ms M pc L (a4 :: a3 :: a2 :: a1 :: pv_r k :: S) sh mi mr Po :=
  ev_callv (av := [a1, a2, a3, a4]) hd hc hs rfl rfl h8 hd1 (Or.inl (fun v sh2 mi3 mr2 h => by rw [h.2.1])) (Nat.zero_add _) (Nat.zero_add _) hcall (fun v sh2 mi3 mr2 h => by obtain ⟨rfl, rfl, rfl, rfl⟩ := h; exact kk)
theorem ev_s4n (hd : decode M.2.1 pc = .ok (.invokestatic idx, 3)) (hc : cs_c M.1.cls idx N 4) (h8 : S.length ≤ 8) (hd1 : d1 < d) (hcall : EV none d1 0 0 N 0 (en_l N [a1, a2, a3, a4]) [] sh mi mr (ok_n sh mr mi2)) (kk : EV X d mc ms M (pc + 3) L (S) sh mi2 mr Po) : EV X d mc ms M pc L (a4 :: a3 :: a2 :: a1 :: S) sh mi mr Po :=
  ev_calls (av := [a1, a2, a3, a4]) hd hc rfl rfl h8 hd1 (Or.inl (fun v sh2 mi3 mr2 h => by rw [h.2.1])) (Nat.zero_add _) (Nat.zero_add _) hcall (fun v sh2 mi3 mr2 h => by obtain ⟨rfl, rfl, rfl, rfl⟩ := h; exact kk)
theorem ev_t4n (hd : decode M.2.1 pc = .ok (.invokestatic idx, 3)) (hc : cn_c M.1.cls idx N 4) (h8 : S.length ≤ 8) (hd1 : d1 < d) (hcall : EV none d1 0 0 N 0 (en_l N [a1, a2, a3, a4]) [] sh mi mr (ok_n sh mr mi2)) (kk : EV X d mc ms M (pc + 3) L (S) sh mi2 mr Po) : EV X d mc ms M pc L (a4 :: a3 :: a2 :: a1 :: S) sh mi mr Po :=
  ev_calln (av := [a1, a2, a3, a4]) hd hc rfl rfl h8 hd1 (Or.inl (fun v sh2 mi3 mr2 h => by rw [h.2.1])) (Nat.zero_add _) (Nat.zero_add _) hcall (fun v sh2 mi3 mr2 h => by obtain ⟨rfl, rfl, rfl, rfl⟩ := h; exact kk)
theorem ev_v5i (hd : decode M.2.1 pc = .ok (.invokevirtual idx, 3)) (hc : cv_c M.1.cls idx N ci 5) (hs : sh[k]? = some (.inl ci)) (h8 : S.length ≤ 8) (hd1 : d1 < d) (hcall : EV none d1 0 0 N 0 (en_l N [pv_r k, a1, a2, a3, a4, a5]) [] sh mi mr (ok_r sh mr r mi2)) (kk : EV X d mc ms M (pc + 3) L (pv_i r :: S) sh mi2 mr Po) : EV X d mc ms M pc L (a5 :: a4 :: a3 :: a2 :: a1 :: pv_r k :: S) sh mi mr Po :=
  ev_callv (av := [a1, a2, a3, a4, a5]) hd hc hs rfl rfl h8 hd1 (Or.inl (fun v sh2 mi3 mr2 h => by rw [h.2.1])) (Nat.zero_add _) (Nat.zero_add _) hcall (fun v sh2 mi3 mr2 h => by obtain ⟨rfl, rfl, rfl, rfl⟩ := h; exact kk)
theorem ev_s5i (hd : decode M.2.1 pc = .ok (.invokestatic idx, 3)) (hc : cs_c M.1.cls idx N 5) (h8 : S.length ≤ 8) (hd1 : d1 < d) (hcall : EV none d1 0 0 N 0 (en_l N [a1, a2, a3, a4, a5]) [] sh mi mr (ok_r sh mr r mi2)) (kk : EV X d mc ms M (pc + 3) L (pv_i r :: S) sh mi2 mr Po) : EV X d mc ms M pc L (a5 :: a4 :: a3 :: a2 :: a1 :: S) sh mi mr Po :=
  ev_calls (av := [a1, a2, a3, a4, a5]) hd hc rfl rfl h8 hd1 (Or.inl (fun v sh2 mi3 mr2 h => by rw [h.2.1])) (Nat.zero_add _) (Nat.zero_add _) hcall (fun v sh2 mi3 mr2 h => by obtain ⟨rfl, rfl, rfl, rfl⟩ := h; exact kk)
theorem ev_t5i (hd : decode M.2.1 pc = .ok (.invokestatic idx, 3)) (hc : cn_c M.1.cls idx N 5) (h8 : S.length ≤ 8) (hd1 : d1 < d) (hcall : EV none d1 0 0 N 0 (en_l N [a1, a2, a3, a4, a5]) [] sh mi mr (ok_r sh mr r mi2)) (kk : EV X d mc ms M (pc + 3) L (pv_i r :: S) sh mi2 mr Po) : EV X d mc ms M pc L (a5 :: a4 :: a3 :: a2 :: a1 :: S) sh mi mr Po :=
  ev_calln (av := [a1, a2, a3, a4, a5]) hd hc rfl rfl h8 hd1 (Or.inl (fun v sh2 mi3 mr2 h => by rw [h.2.1])) (Nat.zero_add _) (Nat.zero_add _) hcall (fun v sh2 mi3 mr2 h => by obtain ⟨rfl, rfl, rfl, rfl⟩ := h; exact kk)
theorem ev_v5q (hd : decode M.2.1 pc = .ok (.invokevirtual idx, 3)) (hc : cv_c M.1.cls idx N ci 5) (hs : sh[k]? = some (.inl ci)) (h8 : S.length ≤ 8) (hd1 : d1 < d) (hcall : EV none d1 0 0 N 0 (en_l N [pv_r k, a1, a2, a3, a4, a5]) [] sh mi mr (ok_q sh mr rq mi2)) (kk : EV X d mc ms M (pc + 3) L (pv_q rq :: S) sh mi2 mr Po) : EV X d mc ms M pc L (a5 :: a4 :: a3 :: a2 :: a1 :: pv_r k :: S) sh mi mr Po :=
  ev_callv (av := [a1, a2, a3, a4, a5]) hd hc hs rfl rfl h8 hd1 (Or.inl (fun v sh2 mi3 mr2 h => by rw [h.2.1])) (Nat.zero_add _) (Nat.zero_add _) hcall (fun v sh2 mi3 mr2 h => by obtain ⟨rfl, rfl, rfl, rfl⟩ := h; exact kk)
theorem ev_s5q (hd : decode M.2.1 pc = .ok (.invokestatic idx, 3)) (hc : cs_c M.1.cls idx N 5) (h8 : S.length ≤ 8) (hd1 : d1 < d) (hcall : EV none d1 0 0 N 0 (en_l N [a1, a2, a3, a4, a5]) [] sh mi mr (ok_q sh mr rq mi2)) (kk : EV X d mc ms M (pc + 3) L (pv_q rq :: S) sh mi2 mr Po) : EV X d mc ms M pc L (a5 :: a4 :: a3 :: a2 :: a1 :: S) sh mi mr Po :=
  ev_calls (av := [a1, a2, a3, a4, a5]) hd hc rfl rfl h8 hd1 (Or.inl (fun v sh2 mi3 mr2 h => by rw [h.2.1])) (Nat.zero_add _) (Nat.zero_add _) hcall (fun v sh2 mi3 mr2 h => by obtain ⟨rfl, rfl, rfl, rfl⟩ := h; exact kk)
theorem ev_t5q (hd : decode M.2.1 pc = .ok (.invokestatic idx, 3)) (hc : cn_c M.1.cls idx N 5) (h8 : S.length ≤ 8) (hd1 : d1 < d) (hcall : EV none d1 0 0 N 0 (en_l N [a1, a2, a3, a4, a5]) [] sh mi mr (ok_q sh mr rq mi2)) (kk : EV X d mc ms M (pc + 3) L (pv_q rq :: S) sh mi2 mr Po) : EV X d mc ms M pc L (a5 :: a4 :: a3 :: a2 :: a1 :: S) sh mi mr Po :=
  ev_calln (av := [a1, a2, a3, a4, a5]) hd hc rfl rfl h8 hd1 (Or.inl (fun v sh2 mi3 mr2 h => by rw [h.2.1])) (Nat.zero_add _) (Nat.zero_add _) hcall (fun v sh2 mi3 mr2 h => by obtain ⟨rfl, rfl, rfl, rfl⟩ := h; exact kk)
theorem ev_v5n (hd : decode M.2.1 pc = .ok (.invokevirtual idx, 3)) (hc : cv_c M.1.cls idx N ci 5) (hs : sh[k]? = some (.inl ci)) (h8 : S.length ≤ 8) (hd1 : d1 < d) (hcall : EV none d1 0 0 N 0 (en_l N [pv_r k, a1, a2, a3, a4, a5]) [] sh mi mr (ok_n sh mr mi2)) (kk : EV X d mc ms M (pc + 3) L (S) sh mi2 mr Po) : EV X d mc ms M pc L (a5 :: a4 :: a3 :: a2 :: a1 :: pv_r k :: S) sh mi mr Po :=
  ev_callv (av := [a1, a2, a3, a4, a5]) hd hc hs rfl rfl h8 hd1 (Or.inl (fun v sh2 mi3 mr2 h => by rw [h.2.1])) (Nat.zero_add _) (Nat.zero_add _) hcall (fun v sh2 mi3 mr2 h => by obtain ⟨rfl, rfl, rfl, rfl⟩ := h; exact kk)
theorem ev_s5n (hd : decode M.2.1 pc = .ok (.invokestatic idx, 3)) (hc : cs_c M.1.cls idx N 5) (h8 : S.length ≤ 8) (hd1 : d1 < d) (hcall : EV none d1 0 0 N 0 (en_l N [a1, a2, a3, a4, a5]) [] sh mi mr (ok_n sh mr mi2)) (kk : EV X d mc ms M (pc + 3) L (S) sh mi2 mr Po) : EV X d mc ms M pc L (a5 :: a4 :: a3 :: a2 :: a1 :: S) sh mi mr Po :=
  ev_calls (av := [a1, a2, a3, a4, a5]) hd hc rfl rfl h8 hd1 (Or.inl (fun v sh2 mi3 mr2 h => by rw [h.2.1])) (Nat.zero_add _) (Nat.zero_add _) hcall (fun v sh2 mi3 mr2 h => by obtain ⟨rfl, rfl, rfl, rfl⟩ := h; exact kk)
theorem ev_t5n (hd : decode M.2.1 pc = .ok (.invokestatic idx, 3)) (hc : cn_c M.1.cls idx N 5) (h8 : S.length ≤ 8) (hd1 : d1 < d) (hcall : EV none d1 0 0 N 0 (en_l N [a1, a2, a3, a4, a5]) [] sh mi mr (ok_n sh mr mi2)) (kk : EV X d mc ms M (pc + 3) L (S) sh mi2 mr Po) : EV X d mc ms M pc L (a5 :: a4 :: a3 :: a2 :: a1 :: S) sh mi mr Po :=
  ev_calln (av := [a1, a2, a3, a4, a5]) hd hc rfl rfl h8 hd1 (Or.inl (fun v sh2 mi3 mr2 h => by rw [h.2.1])) (Nat.zero_add _) (Nat.zero_add _) hcall (fun v sh2 mi3 mr2 h => by obtain ⟨rfl, rfl, rfl, rfl⟩ := h; exact kk)
theorem ev_v6i (hd : decode M.2.1 pc = .ok (.invokevirtual idx, 3)) (hc : cv_c M.1.cls idx N ci 6) (hs : sh[k]? = some (.inl ci)) (h8 : S.length ≤ 8) (hd1 : d1 < d) (hcall : EV none d1 0 0 N 0 (en_l N [pv_r k, a1, a2, a3, a4, a5, a6]) [] sh mi mr (ok_r sh mr r mi2)) (kk : EV X d mc ms M (pc + 3) L (pv_i r :: S) sh mi2 mr Po) : EV X d mc ms M pc L (a6 :: a5 :: a4 :: a3 :: a2 :: a1 :: pv_r k :: S) sh mi mr Po :=
  ev_callv (av := [a1, a2, a3, a4, a5, a6]) hd hc hs rfl rfl h8 hd1 (Or.inl (fun v sh2 mi3 mr2 h => by rw [h.2.1])) (Nat.zero_add _) (Nat.zero_add _) hcall (fun v sh2 mi3 mr2 h => by obtain ⟨rfl, rfl, rfl, rfl⟩ := h; exact kk)
theorem ev_s6i (hd : decode M.2.1 pc = .ok (.invokestatic idx, 3)) (hc : cs_c M.1.cls idx N 6) (h8 : S.length ≤ 8) (hd1 : d1 < d) (hcall : EV none d1 0 0 N 0 (en_l N [a1, a2, a3, a4, a5, a6]) [] sh mi mr (ok_r sh mr r mi2)) (kk : EV X d mc ms M (pc + 3) L (pv_i r :: S) sh mi2 mr Po) : EV X d mc ms M pc L (a6 :: a5 :: a4 :: a3 :: a2 :: a1 :: S) sh mi mr Po :=
  ev_calls (av := [a1, a2, a3, a4, a5, a6]) hd hc rfl rfl h8 hd1 (Or.inl (fun v sh2 mi3 mr2 h => by rw [h.2.1])) (Nat.zero_add _) (Nat.zero_add _) hcall (fun v sh2 mi3 mr2 h => by obtain ⟨rfl, rfl, rfl, rfl⟩ := h; exact kk)
theorem ev_t6i (hd : decode M.2.1 pc = .ok (.invokestatic idx, 3)) (hc : cn_c M.1.cls idx N 6) (h8 : S.length ≤ 8) (hd1 : d1 < d) (hcall : EV none d1 0 0 N 0 (en_l N [a1, a2, a3, a4, a5, a6]) [] sh mi mr (ok_r sh mr r mi2)) (kk : EV X d mc ms M (pc + 3) L (pv_i r :: S) sh mi2 mr Po) : EV X d mc ms M pc L (a6 :: a5 :: a4 :: a3 :: a2 :: a1 :: S) sh mi mr Po :=
  ev_calln (av := [a1, a2, a3, a4, a5, a6]) hd hc rfl rfl h8 hd1 (Or.inl (fun v sh2 mi3 mr2 h => by rw [h.2.1])) (Nat.zero_add _) (Nat.zero_add _) hcall (fun v sh2 mi3 mr2 h => by obtain ⟨rfl, rfl, rfl, rfl⟩ := h; exact kk)
theorem ev_v6q (hd : decode M.2.1 pc = .ok (.invokevirtual idx, 3)) (hc : cv_c M.1.cls idx N ci 6) (hs : sh[k]? = some (.inl ci)) (h8 : S.length ≤ 8) (hd1 : d1 < d) (hcall : EV none d1 0 0 N 0 (en_l N [pv_r k, a1, a2, a3, a4, a5, a6]) [] sh mi mr (ok_q sh mr rq mi2)) (kk : EV X d mc ms M (pc + 3) L (pv_q rq :: S) sh mi2 mr Po) : EV X d mc ms M pc L (a6 :: a5 :: a4 :: a3 :: a2 :: a1 :: pv_r k :: S) sh mi mr Po :=
  ev_callv (av := [a1, a2, a3, a4, a5, a6]) hd hc hs rfl rfl h8 hd1 (Or.inl (fun v sh2 mi3 mr2 h => by rw [h.2.1])) (Nat.zero_add _) (Nat.zero_add _) hcall (fun v sh2 mi3 mr2 h => by obtain ⟨rfl, rfl, rfl, rfl⟩ := h; exact kk)
theorem ev_s6q (hd : decode M.2.1 pc = .ok (.invokestatic idx, 3)) (hc : cs_c M.1.cls idx N 6) (h8 : S.length ≤ 8) (hd1 : d1 < d) (hcall : EV none d1 0 0 N 0 (en_l N [a1, a2, a3, a4, a5, a6]) [] sh mi mr (ok_q sh mr rq mi2)) (kk : EV X d mc ms M (pc + 3) L (pv_q rq :: S) sh mi2 mr Po) : EV X d mc ms M pc L (a6 :: a5 :: a4 :: a3 :: a2 :: a1 :: S) sh mi mr Po :=
  ev_calls (av := [a1, a2, a3, a4, a5, a6]) hd hc rfl rfl h8 hd1 (Or.inl (fun v sh2 mi3 mr2 h => by rw [h.2.1])) (Nat.zero_add _) (Nat.zero_add _) hcall (fun v sh2 mi3 mr2 h => by obtain ⟨rfl, rfl, rfl, rfl⟩ := h; exact kk)
theorem ev_t6q (hd : decode M.2.1 pc = .ok (.invokestatic idx, 3)) (hc : cn_c M.1.cls idx N 6) (h8 : S.length ≤ 8) (hd1 : d1 < d) (hcall : EV none d1 0 0 N 0 (en_l N [a1, a2, a3, a4, a5, a6]) [] sh mi mr (ok_q sh mr rq mi2)) (kk : EV X d mc ms M (pc + 3) L (pv_q rq :: S) sh mi2 mr Po) : EV X d mc ms M pc L (a6 :: a5 :: a4 :: a3 :: a2 :: a1 :: S) sh mi mr Po :=
  ev_calln (av := [a1, a2, a3, a4, a5, a6]) hd hc rfl rfl h8 hd1 (Or.inl (fun v sh2 mi3 mr2 h => by rw [h.2.1])) (Nat.zero_add _) (Nat.zero_add _) hcall (fun v sh2 mi3 mr2 h => by obtain ⟨rfl, rfl, rfl, rfl⟩ := h; exact kk)
theorem ev_v6n (hd : decode M.2.1 pc = .ok (.invokevirtual idx, 3)) (hc : cv_c M.1.cls idx N ci 6) (hs : sh[k]? = some (.inl ci)) (h8 : S.length ≤ 8) (hd1 : d1 < d) (hcall : EV none d1 0 0 N 0 (en_l N [pv_r k, a1, a2, a3, a4, a5, a6]) [] sh mi mr (ok_n sh mr mi2)) (kk : EV X d mc ms M (pc + 3) L (S) sh mi2 mr Po) : EV X d mc ms M pc L (a6 :: a5 :: a4 :: a3 :: a2 :: a1 :: pv_r k :: S) sh mi mr Po :=
  ev_callv (av := [a1, a2, a3, a4, a5, a6]) hd hc hs rfl rfl h8 hd1 (Or.inl (fun v sh2 mi3 mr2 h => by rw [h.2.1])) (Nat.zero_add _) (Nat.zero_add _) hcall (fun v sh2 mi3 mr2 h => by obtain ⟨rfl, rfl, rfl, rfl⟩ := h; exact kk)
theorem ev_s6n (hd : decode M.2.1 pc = .ok (.invokestatic idx, 3)) (hc : cs_c M.1.cls idx N 6) (h8 : S.length ≤ 8) (hd1 : d1 < d) (hcall : EV none d1 0 0 N 0 (en_l N [a1, a2, a3, a4, a5, a6]) [] sh mi mr (ok_n sh mr mi2)) (kk : EV X d mc ms M (pc + 3) L (S) sh mi2 mr Po) : EV X d mc ms M pc L (a6 :: a5 :: a4 :: a3 :: a2 :: a1 :: S) sh mi mr Po :=
  ev_calls (av := [a1, a2, a3, a4, a5, a6]) hd hc rfl rfl h8 hd1 (Or.inl (fun v sh2 mi3 mr2 h => by rw [h.2.1])) (Nat.zero_add _) (Nat.zero_add _) hcall (fun v sh2 mi3 mr2 h => by obtain ⟨rfl, rfl, rfl, rfl⟩ := h; exact kk)
theorem ev_t6n (hd : decode M.2.1 pc = .ok (.invokestatic idx, 3)) (hc : cn_c M.1.cls idx N 6) (h8 : S.length ≤ 8) (hd1 : d1 < d) (hcall : EV none d1 0 0 N 0 (en_l N [a1, a2, a3, a4, a5, a6]) [] sh mi mr (ok_n sh mr mi2)) (kk : EV X d mc ms M (pc + 3) L (S) sh mi2 mr Po) : EV X d mc ms M pc L (a6 :: a5 :: a4 :: a3 :: a2 :: a1 :: S) sh mi mr Po :=
  ev_calln (av := [a1, a2, a3, a4, a5, a6]) hd hc rfl rfl h8 hd1 (Or.inl (fun v sh2 mi3 mr2 h => by rw [h.2.1])) (Nat.zero_add _) (Nat.zero_add _) hcall (fun v sh2 mi3 mr2 h => by obtain ⟨rfl, rfl, rfl, rfl⟩ := h; exact kk)
end EVT
section EVU
variable {X : Option (Nat × (Nat → Int32))} {d mc ms : Nat} {M : MD} {pc : Nat} {L : List (Option PV)} {S : List PV} {sh : SH} {mi : MI} {mr : MR} {Po : PO}
theorem ev_if_eq_t {x : Int32} {off : Int} {tgt : Nat} (hd : decode M.2.1 pc = .ok (.ifCond .eq off, 3)) (ht : (pc : Int) + off = (tgt : Int)) (h : x = 0) (kk : EV X d mc ms M tgt L S sh mi mr Po) : EV X d mc ms M pc L (pv_i x :: S) sh mi mr Po := ev_if_eq hd ht (fun _ => kk) (fun hn => absurd h hn)
theorem ev_if_eq_f {x : Int32} {off : Int} {tgt : Nat} (hd : decode M.2.1 pc = .ok (.ifCond .eq off, 3)) (ht : (pc : Int) + off = (tgt : Int)) (h : ¬ x = 0) (kk : EV X d mc ms M (pc + 3) L S sh mi mr Po) : EV X d mc ms M pc L (pv_i x :: S) sh mi mr Po := ev_if_eq hd ht (fun hn => absurd hn h) (fun _ => kk)
theorem ev_if_ne_t {x : Int32} {off : Int} {tgt : Nat} (hd : decode M.2.1 pc = .ok (.ifCond .ne off, 3)) (ht : (pc : Int) + off = (tgt : Int)) (h : ¬ x = 0) (kk : EV X d mc ms M tgt L S sh mi mr Po) : EV X d mc ms M pc L (pv_i x :: S) sh mi mr Po := ev_if_ne hd ht (fun _ => kk) (fun hn => absurd hn h)
theorem ev_if_ne_f {x : Int32} {off : Int} {tgt : Nat} (hd : decode M.2.1 pc = .ok (.ifCond .ne off, 3)) (ht : (pc : Int) + off = (tgt : Int)) (h : x = 0) (kk : EV X d mc ms M (pc + 3) L S sh mi mr Po) : EV X d mc ms M pc L (pv_i x :: S) sh mi mr Po := ev_if_ne hd ht (fun hn => absurd h hn) (fun _ => kk)
theorem ev_if_lt_t {x : Int32} {off : Int} {tgt : Nat} (hd : decode M.2.1 pc = .ok (.ifCond .lt off, 3)) (ht : (pc : Int) + off = (tgt : Int)) (h : x < 0) (kk : EV X d mc ms M tgt L S sh mi mr Po) : EV X d mc ms M pc L (pv_i x :: S) sh mi mr Po := ev_if_lt hd ht (fun _ => kk) (fun hn => absurd h hn)
theorem ev_if_lt_f {x : Int32} {off : Int} {tgt : Nat} (hd : decode M.2.1 pc = .ok (.ifCond .lt off, 3)) (ht : (pc : Int) + off = (tgt : Int)) (h : ¬ x < 0) (kk : EV X d mc ms M (pc + 3) L S sh mi mr Po) : EV X d mc ms M pc L (pv_i x :: S) sh mi mr Po := ev_if_lt hd ht (fun hn => absurd hn h) (fun _ => kk)
theorem ev_if_ge_t {x : Int32} {off : Int} {tgt : Nat} (hd : decode M.2.1 pc = .ok (.ifCond .ge off, 3)) (ht : (pc : Int) + off = (tgt : Int)) (h : 0 ≤ x) (kk : EV X d mc ms M tgt L S sh mi mr Po) : EV X d mc ms M pc L (pv_i x :: S) sh mi mr Po := ev_if_ge hd ht (fun _ => kk) (fun hn => absurd h hn)
theorem ev_if_ge_f {x : Int32} {off : Int} {tgt : Nat} (hd : decode M.2.1 pc = .ok (.ifCond .ge off, 3)) (ht : (pc : Int) + off = (tgt : Int)) (h : ¬ 0 ≤ x) (kk : EV X d mc ms M (pc + 3) L S sh mi mr Po) : EV X d mc ms M pc L (pv_i x :: S) sh mi mr Po := ev_if_ge hd ht (fun hn => absurd hn h) (fun _ => kk)
theorem ev_if_gt_t {x : Int32} {off : Int} {tgt : Nat} (hd : decode M.2.1 pc = .ok (.ifCond .gt off, 3)) (ht : (pc : Int) + off = (tgt : Int)) (h : 0 < x) (kk : EV X d mc ms M tgt L S sh mi mr Po) : EV X d mc ms M pc L (pv_i x :: S) sh mi mr Po := ev_if_gt hd ht (fun _ => kk) (fun hn => absurd h hn)
theorem ev_if_gt_f {x : Int32} {off : Int} {tgt : Nat} (hd : decode M.2.1 pc = .ok (.ifCond .gt off, 3)) (ht : (pc : Int) + off = (tgt : Int)) (h : ¬ 0 < x) (kk : EV X d mc ms M (pc + 3) L S sh mi mr Po) : EV X d mc ms M pc L (pv_i x :: S) sh mi mr Po := ev_if_gt hd ht (fun hn => absurd hn h) (fun _ => kk)
theorem ev_if_le_t {x : Int32} {off : Int} {tgt : Nat} (hd : decode M.2.1 pc = .ok (.ifCond .le off, 3)) (ht : (pc : Int) + off = (tgt : Int)) (h : x ≤ 0) (kk : EV X d mc ms M tgt L S sh mi mr Po) : EV X d mc ms M pc L (pv_i x :: S) sh mi mr Po := ev_if_le hd ht (fun _ => kk) (fun hn => absurd h hn)
theorem ev_if_le_f {x : Int32} {off : Int} {tgt : Nat} (hd : decode M.2.1 pc = .ok (.ifCond .le off, 3)) (ht : (pc : Int) + off = (tgt : Int)) (h : ¬ x ≤ 0) (kk : EV X d mc ms M (pc + 3) L S sh mi mr Po) : EV X d mc ms M pc L (pv_i x :: S) sh mi mr Po := ev_if_le hd ht (fun hn => absurd hn h) (fun _ => kk)
theorem ev_icmp_eq_t {x y : Int32} {off : Int} {tgt : Nat} (hd : decode M.2.1 pc = .ok (.if_icmp .eq off, 3)) (ht : (pc : Int) + off = (tgt : Int)) (h : x = y) (kk : EV X d mc ms M tgt L S sh mi mr Po) : EV X d mc ms M pc L (pv_i y :: pv_i x :: S) sh mi mr Po := ev_icmp_eq hd ht (fun _ => kk) (fun hn => absurd h hn)
theorem ev_icmp_eq_f {x y : Int32} {off : Int} {tgt : Nat} (hd : decode M.2.1 pc = .ok (.if_icmp .eq off, 3)) (ht : (pc : Int) + off = (tgt : Int)) (h : ¬ x = y) (kk : EV X d mc ms M (pc + 3) L S sh mi mr Po) : EV X d mc ms M pc L (pv_i y :: pv_i x :: S) sh mi mr Po := ev_icmp_eq hd ht (fun hn => absurd hn h) (fun _ => kk)
theorem ev_icmp_ne_t {x y : Int32} {off : Int} {tgt : Nat} (hd : decode M.2.1 pc = .ok (.if_icmp .ne off, 3)) (ht : (pc : Int) + off = (tgt : Int)) (h : ¬ x = y) (kk : EV X d mc ms M tgt L S sh mi mr Po) : EV X d mc ms M pc L (pv_i y :: pv_i x :: S) sh mi mr Po := ev_icmp_ne hd ht (fun _ => kk) (fun hn => absurd hn h)
theorem ev_icmp_ne_f {x y : Int32} {off : Int} {tgt : Nat} (hd : decode M.2.1 pc = .ok (.if_icmp .ne off, 3)) (ht : (pc : Int) + off = (tgt : Int)) (h : x = y) (kk : EV X d mc ms M (pc + 3) L S sh mi mr Po) : EV X d mc ms M pc L (pv_i y :: pv_i x :: S) sh mi mr Po := ev_icmp_ne hd ht (fun hn => absurd h hn) (fun _ => kk)
theorem ev_icmp_lt_t {x y : Int32} {off : Int} {tgt : Nat} (hd : decode M.2.1 pc = .ok (.if_icmp .lt off, 3)) (ht : (pc : Int) + off = (tgt : Int)) (h : x < y) (kk : EV X d mc ms M tgt L S sh mi mr Po) : EV X d mc ms M pc L (pv_i y :: pv_i x :: S) sh mi mr Po := ev_icmp_lt hd ht (fun _ => kk) (fun hn => absurd h hn)
theorem ev_icmp_lt_f {x y : Int32} {off : Int} {tgt : Nat} (hd : decode M.2.1 pc = .ok (.if_icmp .lt off, 3)) (ht : (pc : Int) + off = (tgt : Int)) (h : ¬ x < y) (kk : EV X d mc ms M (pc + 3) L S sh mi mr Po) : EV X d mc ms M pc L (pv_i y :: pv_i x :: S) sh mi mr Po := ev_icmp_lt hd ht (fun hn => absurd hn h) (fun _ => kk)
theorem ev_icmp_ge_t {x y : Int32} {off : Int} {tgt : Nat} (hd : decode M.2.1 pc = .ok (.if_icmp .ge off, 3)) (ht : (pc : Int) + off = (tgt : Int)) (h : y ≤ x) (kk : EV X d mc ms M tgt L S sh mi mr Po) : EV X d mc ms M pc L (pv_i y :: pv_i x :: S) sh mi mr Po := ev_icmp_ge hd ht (fun _ => kk) (fun hn => absurd h hn)
theorem ev_icmp_ge_f {x y : Int32} {off : Int} {tgt : Nat} (hd : decode M.2.1 pc = .ok (.if_icmp .ge off, 3)) (ht : (pc : Int) + off = (tgt : Int)) (h : ¬ y ≤ x) (kk : EV X d mc ms M (pc + 3) L S sh mi mr Po) : EV X d mc ms M pc L (pv_i y :: pv_i x :: S) sh mi mr Po := ev_icmp_ge hd ht (fun hn => absurd hn h) (fun _ => kk)
theorem ev_icmp_gt_t {x y : Int32} {off : Int} {tgt : Nat} (hd : decode M.2.1 pc = .ok (.if_icmp .gt off, 3)) (ht : (pc : Int) + off = (tgt : Int)) (h : y < x) (kk : EV X d mc ms M tgt L S sh mi mr Po) : EV X d mc ms M pc L (pv_i y :: pv_i x :: S) sh mi mr Po := ev_icmp_gt hd ht (fun _ => kk) (fun hn => absurd h hn)
theorem ev_icmp_gt_f {x y : Int32} {off : Int} {tgt : Nat} (hd : decode M.2.1 pc = .ok (.if_icmp .gt off, 3)) (ht : (pc : Int) + off = (tgt : Int)) (h : ¬ y < x) (kk : EV X d mc ms M (pc + 3) L S sh mi mr Po) : EV X d mc ms M pc L (pv_i y :: pv_i x :: S) sh mi mr Po := ev_icmp_gt hd ht (fun hn => absurd hn h) (fun _ => kk)
theorem ev_icmp_le_t {x y : Int32} {off : Int} {tgt : Nat} (hd : decode M.2.1 pc = .ok (.if_icmp .le off, 3)) (ht : (pc : Int) + off = (tgt : Int)) (h : x ≤ y) (kk : EV X d mc ms M tgt L S sh mi mr Po) : EV X d mc ms M pc L (pv_i y :: pv_i x :: S) sh mi mr Po := ev_icmp_le hd ht (fun _ => kk) (fun hn => absurd h hn)
theorem ev_icmp_le_f {x y : Int32} {off : Int} {tgt : Nat} (hd : decode M.2.1 pc = .ok (.if_icmp .le off, 3)) (ht : (pc : Int) + off = (tgt : Int)) (h : ¬ x ≤ y) (kk : EV X d mc ms M (pc + 3) L S sh mi mr Po) : EV X d mc ms M pc L (pv_i y :: pv_i x :: S) sh mi mr Po := ev_icmp_le hd ht (fun hn => absurd hn h) (fun _ => kk)
theorem ev_ifb_eq {c : Prop} [Decidable c] {off : Int} {tgt : Nat} (hd : decode M.2.1 pc = .ok (.ifCond .eq off, 3)) (ht : (pc : Int) + off = (tgt : Int)) (kt : ¬ c → EV X d mc ms M tgt L S sh mi mr Po) (kf : c → EV X d mc ms M (pc + 3) L S sh mi mr Po) : EV X d mc ms M pc L (pv_i (bi c) :: S) sh mi mr Po := ev_if_eq hd ht (fun h => kt (bi_0.mp h)) (fun h => kf (Classical.byContradiction (fun hc => h (bi_0.mpr hc))))
theorem ev_ifb_ne {c : Prop} [Decidable c] {off : Int} {tgt : Nat} (hd : decode M.2.1 pc = .ok (.ifCond .ne off, 3)) (ht : (pc : Int) + off = (tgt : Int)) (kt : c → EV X d mc ms M tgt L S sh mi mr Po) (kf : ¬ c → EV X d mc ms M (pc + 3) L S sh mi mr Po) : EV X d mc ms M pc L (pv_i (bi c) :: S) sh mi mr Po := ev_if_ne hd ht (fun h => kt (Classical.byContradiction (fun hc => h (bi_0.mpr hc)))) (fun h => kf (bi_0.mp h))
theorem ev_ifnull_s {k : Nat} {off : Int} {tgt : Nat} (hd : decode M.2.1 pc = .ok (.ifnull off, 3)) (ht : (pc : Int) + off = (tgt : Int)) (kk : EV X d mc ms M (pc + 3) L S sh mi mr Po) : EV X d mc ms M pc L (pv_r k :: S) sh mi mr Po := ev_ifnull hd ht (fun h => by cases h) (fun _ _ => kk)
theorem ev_ifnull_n {off : Int} {tgt : Nat} (hd : decode M.2.1 pc = .ok (.ifnull off, 3)) (ht : (pc : Int) + off = (tgt : Int)) (kk : EV X d mc ms M tgt L S sh mi mr Po) : EV X d mc ms M pc L (pv_q none :: S) sh mi mr Po := ev_ifnull hd ht (fun _ => kk) (fun _ h => by cases h)
theorem ev_ifnonnull_s {k : Nat} {off : Int} {tgt : Nat} (hd : decode M.2.1 pc = .ok (.ifnonnull off, 3)) (ht : (pc : Int) + off = (tgt : Int)) (kk : EV X d mc ms M tgt L S sh mi mr Po) : EV X d mc ms M pc L (pv_r k :: S) sh mi mr Po := ev_ifnonnull hd ht (fun _ _ => kk) (fun h => by cases h)
theorem ev_ifnonnull_n {off : Int} {tgt : Nat} (hd : decode M.2.1 pc = .ok (.ifnonnull off, 3)) (ht : (pc : Int) + off = (tgt : Int)) (kk : EV X d mc ms M (pc + 3) L S sh mi mr Po) : EV X d mc ms M pc L (pv_q none :: S) sh mi mr Po := ev_ifnonnull hd ht (fun _ h => by cases h) (fun _ => kk)
theorem ev_iincN {k i : Nat} (hd : decode M.2.1 pc = .ok (.iinc k 1, 3)) (hl0 : L[k]? = some (some (pv_i (nI i)))) (hn : k < M.2.2.1) (kk : EV X d mc ms M (pc + 3) (L.set k (some (pv_i (nI (i + 1))))) S sh mi mr Po) : EV X d mc ms M pc L S sh mi mr Po := ev_iinc hd hl0 (nI_1 i) hn kk
end EVU
end
section
theorem i_gt {x y : Int32} : ¬ y < x ↔ x ≤ y := by rw [Int32.not_lt]
set_option maxRecDepth 100000 in
set_option maxHeartbeats 4000000 in
theorem t_X5_within {sh : SH} {mi : MI} {mr : MR} (v a b : Int32) : EV none 0 0 0 mX5_within 0 (en_l mX5_within [pv_i v, pv_i a, pv_i b]) [] sh mi mr (ok_r sh mr (bi (a ≤ v ∧ v ≤ b)) mi) := by
  show EV none 0 0 0 mX5_within 0 [some (pv_i v), some (pv_i a), some (pv_i b)] [] sh mi mr _
  refine ev_iload_n dX5_within_0 rfl ?_
  refine ev_iload_n dX5_within_1 rfl ?_
  refine ev_icmp_lt (tgt := 14) dX5_within_2 rfl (fun h2 => ?_) (fun h2 => ?_)
  · refine ev_iconst (v := 0) dX5_within_14 rfl ?_
    exact ev_ireturn (ty := .boolean) dX5_within_15 rfl rfl ⟨congrArg (fun z => some (pv_i z)) (by unfold bi; simp only [Int32.lt_iff_toInt_lt, Int32.le_iff_toInt_le] at *; split <;> first | rfl | (exfalso; omega)), rfl, rfl, rfl⟩
  · refine ev_iload_n dX5_within_5 rfl ?_
    refine ev_iload_n dX5_within_6 rfl ?_
    refine ev_icmp_gt (tgt := 14) dX5_within_7 rfl (fun h7 => ?_) (fun h7 => ?_)
    · refine ev_iconst (v := 0) dX5_within_14 rfl ?_
      exact ev_ireturn (ty := .boolean) dX5_within_15 rfl rfl ⟨congrArg (fun z => some (pv_i z)) (by unfold bi; simp only [Int32.lt_iff_toInt_lt, Int32.le_iff_toInt_le] at *; split <;> first | rfl | (exfalso; omega)), rfl, rfl, rfl⟩
    · refine ev_iconst (v := 1) dX5_within_10 rfl ?_
      refine ev_goto (tgt := 15) dX5_within_11 rfl ?_
      exact ev_ireturn (ty := .boolean) dX5_within_15 rfl rfl ⟨congrArg (fun z => some (pv_i z)) (by unfold bi; simp only [Int32.lt_iff_toInt_lt, Int32.le_iff_toInt_le] at *; split <;> first | rfl | (exfalso; omega)), rfl, rfl, rfl⟩
set_option maxRecDepth 100000 in
set_option maxHeartbeats 4000000 in
theorem t_X6_in {sh : SH} {mi : MI} {mr : MR} (v a b : Int32) : EV none 0 0 0 mX6_in 0 (en_l mX6_in [pv_i v, pv_i a, pv_i b]) [] sh mi mr (ok_r sh mr (bi (a ≤ v ∧ v ≤ b)) mi) := by
  show EV none 0 0 0 mX6_in 0 [some (pv_i v), some (pv_i a), some (pv_i b)] [] sh mi mr _
  refine ev_iload_n dX6_in_0 rfl ?_
  refine ev_iload_n dX6_in_1 rfl ?_
  refine ev_icmp_lt (tgt := 14) dX6_in_2 rfl (fun h2 => ?_) (fun h2 => ?_)
  · refine ev_iconst (v := 0) dX6_in_14 rfl ?_
    exact ev_ireturn (ty := .boolean) dX6_in_15 rfl rfl ⟨congrArg (fun z => some (pv_i z)) (by unfold bi; simp only [Int32.lt_iff_toInt_lt, Int32.le_iff_toInt_le] at *; split <;> first | rfl | (exfalso; omega)), rfl, rfl, rfl⟩
  · refine ev_iload_n dX6_in_5 rfl ?_
    refine ev_iload_n dX6_in_6 rfl ?_
    refine ev_icmp_gt (tgt := 14) dX6_in_7 rfl (fun h7 => ?_) (fun h7 => ?_)
    · refine ev_iconst (v := 0) dX6_in_14 rfl ?_
      exact ev_ireturn (ty := .boolean) dX6_in_15 rfl rfl ⟨congrArg (fun z => some (pv_i z)) (by unfold bi; simp only [Int32.lt_iff_toInt_lt, Int32.le_iff_toInt_le] at *; split <;> first | rfl | (exfalso; omega)), rfl, rfl, rfl⟩
    · refine ev_iconst (v := 1) dX6_in_10 rfl ?_
      refine ev_goto (tgt := 15) dX6_in_11 rfl ?_
      exact ev_ireturn (ty := .boolean) dX6_in_15 rfl rfl ⟨congrArg (fun z => some (pv_i z)) (by unfold bi; simp only [Int32.lt_iff_toInt_lt, Int32.le_iff_toInt_le] at *; split <;> first | rfl | (exfalso; omega)), rfl, rfl, rfl⟩
set_option maxRecDepth 100000 in
set_option maxHeartbeats 4000000 in
theorem t_X5_isBench {sh : SH} {mi : MI} {mr : MR} (v : Int32) : EV none 1 0 0 mX5_isBench 0 (en_l mX5_isBench [pv_i v]) [] sh mi mr (ok_r sh mr (bi (0 ≤ v ∧ v ≤ 4)) mi) := by
  show EV none 1 0 0 mX5_isBench 0 [some (pv_i v)] [] sh mi mr _
  refine ev_iload_n dX5_isBench_0 rfl ?_
  refine ev_iconst (v := 0) dX5_isBench_1 rfl ?_
  refine ev_iconst (v := 4) dX5_isBench_2 rfl ?_
  refine ev_s3i dX5_isBench_3 cs_X5_57 (by decide) (by decide) (t_X5_within _ _ _) ?_
  exact ev_ireturn (ty := .boolean) dX5_isBench_6 rfl bi_nar ⟨rfl, rfl, rfl, rfl⟩
set_option maxRecDepth 100000 in
set_option maxHeartbeats 4000000 in
theorem t_X5_isSign {sh : SH} {mi : MI} {mr : MR} (v : Int32) : EV none 1 0 0 mX5_isSign 0 (en_l mX5_isSign [pv_i v]) [] sh mi mr (ok_r sh mr (bi (0 ≤ v ∧ v ≤ 26)) mi) := by
  show EV none 1 0 0 mX5_isSign 0 [some (pv_i v)] [] sh mi mr _
  refine ev_iload_n dX5_isSign_0 rfl ?_
  refine ev_iconst (v := 0) dX5_isSign_1 rfl ?_
  refine ev_bipush (v := 26) dX5_isSign_2 rfl ?_
  refine ev_s3i dX5_isSign_4 cs_X5_57 (by decide) (by decide) (t_X5_within _ _ _) ?_
  exact ev_ireturn (ty := .boolean) dX5_isSign_7 rfl bi_nar ⟨rfl, rfl, rfl, rfl⟩
set_option maxRecDepth 100000 in
set_option maxHeartbeats 4000000 in
theorem t_X5_isDay {sh : SH} {mi : MI} {mr : MR} (v : Int32) : EV none 1 0 0 mX5_isDay 0 (en_l mX5_isDay [pv_i v]) [] sh mi mr (ok_r sh mr (bi (0 ≤ v ∧ v ≤ 1000)) mi) := by
  show EV none 1 0 0 mX5_isDay 0 [some (pv_i v)] [] sh mi mr _
  refine ev_iload_n dX5_isDay_0 rfl ?_
  refine ev_iconst (v := 0) dX5_isDay_1 rfl ?_
  refine ev_sipush (v := 1000) dX5_isDay_2 rfl ?_
  refine ev_s3i dX5_isDay_5 cs_X5_57 (by decide) (by decide) (t_X5_within _ _ _) ?_
  exact ev_ireturn (ty := .boolean) dX5_isDay_8 rfl bi_nar ⟨rfl, rfl, rfl, rfl⟩
set_option maxRecDepth 100000 in
set_option maxHeartbeats 4000000 in
theorem t_X6_isBench {sh : SH} {mi : MI} {mr : MR} (v : Int32) : EV none 1 0 0 mX6_isBench 0 (en_l mX6_isBench [pv_i v]) [] sh mi mr (ok_r sh mr (bi (0 ≤ v ∧ v ≤ 4)) mi) := by
  show EV none 1 0 0 mX6_isBench 0 [some (pv_i v)] [] sh mi mr _
  refine ev_iload_n dX6_isBench_0 rfl ?_
  refine ev_iconst (v := 0) dX6_isBench_1 rfl ?_
  refine ev_iconst (v := 4) dX6_isBench_2 rfl ?_
  refine ev_s3i dX6_isBench_3 cs_X6_129 (by decide) (by decide) (t_X6_in _ _ _) ?_
  exact ev_ireturn (ty := .boolean) dX6_isBench_6 rfl bi_nar ⟨rfl, rfl, rfl, rfl⟩
set_option maxRecDepth 100000 in
set_option maxHeartbeats 4000000 in
theorem t_X6_isDay {sh : SH} {mi : MI} {mr : MR} (v : Int32) : EV none 1 0 0 mX6_isDay 0 (en_l mX6_isDay [pv_i v]) [] sh mi mr (ok_r sh mr (bi (0 ≤ v ∧ v ≤ 1000)) mi) := by
  show EV none 1 0 0 mX6_isDay 0 [some (pv_i v)] [] sh mi mr _
  refine ev_iload_n dX6_isDay_0 rfl ?_
  refine ev_iconst (v := 0) dX6_isDay_1 rfl ?_
  refine ev_sipush (v := 1000) dX6_isDay_2 rfl ?_
  refine ev_s3i dX6_isDay_5 cs_X6_129 (by decide) (by decide) (t_X6_in _ _ _) ?_
  exact ev_ireturn (ty := .boolean) dX6_isDay_8 rfl bi_nar ⟨rfl, rfl, rfl, rfl⟩
set_option maxRecDepth 100000 in
set_option maxHeartbeats 4000000 in
theorem t_X5_isSize {sh : SH} {mi : MI} {mr : MR} (v w : Int32) : EV none 1 0 0 mX5_isSize 0 (en_l mX5_isSize [pv_i v, pv_i w]) [] sh mi mr (ok_r sh mr (bi ((1 ≤ v ∧ v ≤ 12) ∧ 1 ≤ w ∧ w ≤ 12)) mi) := by
  show EV none 1 0 0 mX5_isSize 0 [some (pv_i v), some (pv_i w)] [] sh mi mr _
  refine ev_iload_n dX5_isSize_0 rfl ?_
  refine ev_iconst (v := 1) dX5_isSize_1 rfl ?_
  refine ev_bipush (v := 12) dX5_isSize_2 rfl ?_
  refine ev_s3i dX5_isSize_4 cs_X5_57 (by decide) (by decide) (t_X5_within _ _ _) ?_
  refine ev_ifb_eq (tgt := 24) dX5_isSize_7 rfl (fun h7 => ?_) (fun h7 => ?_)
  · refine ev_iconst (v := 0) dX5_isSize_24 rfl ?_
    exact ev_ireturn (ty := .boolean) dX5_isSize_25 rfl rfl ⟨congrArg (fun z => some (pv_i z)) (by unfold bi; simp only [Int32.lt_iff_toInt_lt, Int32.le_iff_toInt_le] at *; split <;> first | rfl | (exfalso; omega)), rfl, rfl, rfl⟩
  · refine ev_iload_n dX5_isSize_10 rfl ?_
    refine ev_iconst (v := 1) dX5_isSize_11 rfl ?_
    refine ev_bipush (v := 12) dX5_isSize_12 rfl ?_
    refine ev_s3i dX5_isSize_14 cs_X5_57 (by decide) (by decide) (t_X5_within _ _ _) ?_
    refine ev_ifb_eq (tgt := 24) dX5_isSize_17 rfl (fun h17 => ?_) (fun h17 => ?_)
    · refine ev_iconst (v := 0) dX5_isSize_24 rfl ?_
      exact ev_ireturn (ty := .boolean) dX5_isSize_25 rfl rfl ⟨congrArg (fun z => some (pv_i z)) (by unfold bi; simp only [Int32.lt_iff_toInt_lt, Int32.le_iff_toInt_le] at *; split <;> first | rfl | (exfalso; omega)), rfl, rfl, rfl⟩
    · refine ev_iconst (v := 1) dX5_isSize_20 rfl ?_
      refine ev_goto (tgt := 25) dX5_isSize_21 rfl ?_
      exact ev_ireturn (ty := .boolean) dX5_isSize_25 rfl rfl ⟨congrArg (fun z => some (pv_i z)) (by unfold bi; simp only [Int32.lt_iff_toInt_lt, Int32.le_iff_toInt_le] at *; split <;> first | rfl | (exfalso; omega)), rfl, rfl, rfl⟩
set_option maxRecDepth 100000 in
set_option maxHeartbeats 4000000 in
theorem t_X0_allOf {sh : SH} {mi : MI} {mr : MR} (n : Int32) : EV none 0 0 0 mX0_allOf 0 (en_l mX0_allOf [pv_i n]) [] sh mi mr (ok_r sh mr ((1 <<< (n &&& 31)) - 1) mi) := by
  show EV none 0 0 0 mX0_allOf 0 [some (pv_i n)] [] sh mi mr _
  refine ev_iconst (v := 1) dX0_allOf_0 rfl ?_
  refine ev_iload_n dX0_allOf_1 rfl ?_
  refine ev_ishl dX0_allOf_2 ?_
  refine ev_iconst (v := 1) dX0_allOf_3 rfl ?_
  refine ev_isub dX0_allOf_4 ?_
  exact ev_ireturn (ty := .int) dX0_allOf_5 rfl rfl ⟨rfl, rfl, rfl, rfl⟩
end
section
def sh_0 : SH := [.inl 5, .inr (2, 10), .inl 2, .inr (0, 7), .inr (0, 7), .inr (0, 35), .inr (0, 7), .inr (0, 7), .inr (0, 7), .inr (0, 7), .inr (0, 7), .inr (0, 40), .inl 4, .inr (0, 27), .inr (0, 27), .inr (0, 6), .inr (0, 40), .inr (0, 27), .inr (0, 20), .inr (0, 147), .inr (0, 147), .inr (3, 6), .inl 1, .inr (0, 30), .inr (0, 30), .inr (0, 30), .inr (0, 30), .inr (0, 50), .inr (0, 50), .inl 6, .inr (0, 10), .inr (0, 10), .inr (0, 60), .inr (0, 60), .inr (1, 60), .inr (0, 50), .inr (0, 50), .inr (0, 50), .inr (0, 10), .inr (0, 10), .inr (0, 10), .inr (0, 50), .inr (0, 50), .inr (0, 7), .inr (0, 7), .inr (0, 50), .inr (0, 10), .inr (0, 7), .inr (0, 7), .inr (0, 5), .inr (0, 27), .inr (0, 40), .inr (0, 20), .inr (0, 147), .inr (0, 6), .inr (0, 27), .inr (0, 6), .inr (0, 6), .inr (0, 6), .inr (0, 864), .inr (0, 6), .inr (0, 864), .inr (0, 6), .inr (0, 30), .inr (0, 30), .inr (0, 30), .inr (0, 30)]
def mr_0 : MR := fun k j => match k with
  | 0 => ([some 1, some 2, some 12, some 21, some 22] : List (Option Nat))[j]?.join
  | 2 => ([some 3, some 4, some 5, some 6, some 7, some 8, some 9, some 10, some 11] : List (Option Nat))[j]?.join
  | 12 => ([some 13, some 14, some 15, none, none, none, some 16, some 17, some 18, some 19, some 20] : List (Option Nat))[j]?.join
  | 22 => ([none, none, some 23, some 24, some 25, some 26, some 27, some 28] : List (Option Nat))[j]?.join
  | 29 => ([none, none, some 30, some 31, some 32, some 33, some 34, some 35, some 36, some 37, some 38, some 39, some 40, none, some 41, some 42, none, some 43, some 44, some 45, some 46, some 47, some 48, some 49, some 50, none, some 51, none, some 52, some 53, none, some 54, some 55, none, none, some 56, some 57, some 58, some 59, some 60, some 61, some 62, none, some 63, some 64, some 65, some 66] : List (Option Nat))[j]?.join
  | _ => none
/-- the cells that stand from the start stand -/
def ba_c (sh : SH) (mr : MR) : Prop := (∀ (k : Nat) (s : Nat ⊕ (Nat × Nat)), sh_0[k]? = some s → sh[k]? = some s) ∧ ∀ (k j r : Nat), mr_0 k j = some r → mr k j = some r
end
section
theorem lp_i {P : Nat → Prop} (n : Nat) (h : ∀ i, i ≤ n → (i < n → P (i + 1)) → P i) : ∀ i, i ≤ n → P i := by
  have key : ∀ k i, n - i = k → i ≤ n → P i := by
    intro k
    induction k with
    | zero => exact fun i h1 h2 => h i h2 (fun h3 => by omega)
    | succ k ih => exact fun i h1 h2 => h i h2 (fun h3 => ih (i + 1) (by omega) (by omega))
  exact fun i hi => key (n - i) i rfl hi
theorem ev_fg {X : Option (Nat × (Nat → Int32))} {d mc ms : Nat} {M : MD} {pc : Nat} {L : List (Option PV)} {S : List PV} {sh : SH} {mi : MI} {mr : MR} {Po : PO} (k : Nat) (kk : EV X d mc ms M pc (L.set k none) S sh mi mr Po) : EV X d mc ms M pc L S sh mi mr Po := by
  refine ev_loc (fun i v h => ?_) kk
  by_cases hi : i = k
  · subst hi
    by_cases hl : i < L.length
    · rw [List.getElem?_set_self hl] at h
      cases h
    · rw [List.getElem?_eq_none (by simp; omega)] at h
      cases h
  · rw [List.getElem?_set_ne (Ne.symm hi)] at h
    exact h
theorem nl_lt {x y : Int32} {a b : Nat} (hx : x = nI a) (hy : y = nI b) (ha : a < 2 ^ 31) (hb : b < 2 ^ 31) : x < y ↔ a < b := by
  subst hx; subst hy; exact nI_ltI ha hb
theorem nl_le {x y : Int32} {a b : Nat} (hx : x = nI a) (hy : y = nI b) (ha : a < 2 ^ 31) (hb : b < 2 ^ 31) : x ≤ y ↔ a ≤ b := by
  subst hx; subst hy; exact nI_leI ha hb
theorem nl_eq {x y : Int32} {a b : Nat} (hx : x = nI a) (hy : y = nI b) (ha : a < 2 ^ 31) (hb : b < 2 ^ 31) : x = y ↔ a = b := by
  subst hx; subst hy; exact nI_eq ha hb
theorem i_cases {x : Int32} {n : Nat} (hn : n < 2 ^ 31) : (0 ≤ x ∧ x ≤ nI n - 1) ↔ ∃ b, b < n ∧ x = nI b := by
  constructor
  · intro ⟨h1, h2⟩
    obtain ⟨j, hj, rfl⟩ := nI_of (x := x) (by rw [Int32.not_lt]; exact h1)
    refine ⟨j, ?_, rfl⟩
    cases n with
    | zero =>
      exfalso
      have e : nI 0 - 1 = (-1 : Int32) := by decide
      rw [e, Int32.le_iff_toInt_le, nI_toInt hj] at h2
      have e2 : (-1 : Int32).toInt = -1 := by decide
      omega
    | succ n =>
      rw [nI_pred] at h2
      have := (nI_leI hj (by omega)).mp h2
      omega
  · rintro ⟨b, hb, rfl⟩
    refine ⟨nI_pos' (by omega), ?_⟩
    cases n with
    | zero => omega
    | succ n =>
      rw [nI_pred]
      exact nI_le (by omega) (by omega)
theorem i_in {x : Int32} {n : Nat} (y : Int32) (hy : y = nI n) (hn : n < 2 ^ 31) : (0 ≤ x ∧ x ≤ y) ↔ ∃ b, b ≤ n ∧ x = nI b := by
  subst hy
  constructor
  · intro ⟨h1, h2⟩
    obtain ⟨j, hj, rfl⟩ := nI_of (x := x) (by rw [Int32.not_lt]; exact h1)
    exact ⟨j, (nI_leI hj hn).mp h2, rfl⟩
  · rintro ⟨b, hb, rfl⟩
    exact ⟨nI_pos' (by omega), nI_le hb hn⟩
theorem nI_m1 {k : Nat} (hk : k < 2 ^ 31) : ¬ nI k = -1 := by
  intro h
  have := nI_toInt hk
  rw [h] at this
  have e2 : (-1 : Int32).toInt = -1 := by decide
  omega
theorem nI_gm1 {k : Nat} (hk : k < 2 ^ 31) : ¬ nI k < -1 := by
  rw [Int32.lt_iff_toInt_lt, nI_toInt hk]
  have e2 : (-1 : Int32).toInt = -1 := by decide
  omega
theorem ev_dup2 {X : Option (Nat × (Nat → Int32))} {d mc ms : Nat} {M : MD} {pc : Nat} {L : List (Option PV)} {S : List PV} {sh : SH} {mi : MI} {mr : MR} {Po : PO} {v w : PV} (hd : decode M.2.1 pc = .ok (.dup2, 1)) (kk : EV X d mc ms M (pc + 1) L (v :: w :: v :: w :: S) sh mi mr Po) : EV X d mc ms M pc L (v :: w :: S) sh mi mr Po :=
  ev_lift (fun _ _ _ _ _ _ _ _ _ _ _ _ _ _ _ _ b ad _ _ _ hC _ _ _ k => lv_dup2_11 hC.1 hC.2.1 hd (pm_cat b ad v) (pm_cat b ad w) k) kk
/-- a book at cell q, its five arrays behind it -/
def bk_c (sh : SH) (mr : MR) (q : Nat) : Prop := sh[q]? = some (.inl 0) ∧ (mr q 0 = some (q + 1) ∧ mr q 1 = some (q + 2) ∧ mr q 2 = some (q + 3) ∧ mr q 3 = some (q + 4) ∧ mr q 4 = some (q + 5)) ∧ (sh[q + 1]? = some (.inr (0, 6)) ∧ sh[q + 2]? = some (.inr (0, 6)) ∧ sh[q + 3]? = some (.inr (0, 5)) ∧ sh[q + 4]? = some (.inr (0, 5)) ∧ sh[q + 5]? = some (.inr (0, 5)))
/-- a skin at cell q, its places behind it -/
def sk_c (sh : SH) (mr : MR) (q n : Nat) : Prop := sh[q]? = some (.inl 3) ∧ mr q 3 = some (q + 1) ∧ sh[q + 1]? = some (.inr (0, n))
/-- Integer.bitCount, as the JDK computes it -/
def bc_1 (x : Int32) : Int32 := x - ((Int32.toUInt32 x >>> (Int32.toUInt32 1 &&& Int32.toUInt32 31)).toInt32 &&& 1431655765)
def bc_2 (x : Int32) : Int32 := (x &&& 858993459) + ((Int32.toUInt32 x >>> (Int32.toUInt32 2 &&& Int32.toUInt32 31)).toInt32 &&& 858993459)
def bc_3 (x : Int32) : Int32 := (x + (Int32.toUInt32 x >>> (Int32.toUInt32 4 &&& Int32.toUInt32 31)).toInt32) &&& 252645135
def bc_4 (x : Int32) : Int32 := x + (Int32.toUInt32 x >>> (Int32.toUInt32 8 &&& Int32.toUInt32 31)).toInt32
def bc_5 (x : Int32) : Int32 := x + (Int32.toUInt32 x >>> (Int32.toUInt32 16 &&& Int32.toUInt32 31)).toInt32
def bc (x : Int32) : Int32 := bc_5 (bc_4 (bc_3 (bc_2 (bc_1 x)))) &&& 63
theorem n_5 : (5 : Int32) = nI 5 := rfl
theorem n_6 : (6 : Int32) = nI 6 := rfl
theorem n_12 : (12 : Int32) = nI 12 := rfl
theorem n_21 : (21 : Int32) = nI 21 := rfl
theorem n_144 : (144 : Int32) = nI 144 := rfl
/-- a stretch of a cell becomes v -/
def fl_r (mi : MI) (k lo n : Nat) (v : Int32) : MI := fun a c => if a = k ∧ lo ≤ c ∧ c < lo + n then v else mi a c
theorem fl_0 {mi : MI} {k lo : Nat} {v : Int32} : fl_r mi k lo 0 v = mi := by
  funext a c
  simp only [fl_r]
  rw [if_neg (by omega)]
theorem fl_s {mi : MI} {k lo n : Nat} {v : Int32} : up_2 (fl_r mi k lo n v) k (lo + n) v = fl_r mi k lo (n + 1) v := by
  funext a c
  simp only [fl_r, up_2]
  by_cases h1 : a = k ∧ c = lo + n
  · rw [if_pos h1, if_pos (by omega)]
  · rw [if_neg h1]
    by_cases h2 : a = k ∧ lo ≤ c ∧ c < lo + n
    · rw [if_pos h2, if_pos (by omega)]
    · rw [if_neg h2, if_neg (by omega)]
end
section
set_option maxRecDepth 100000 in
set_option maxHeartbeats 4000000 in
theorem t_X5_days {sh : SH} {mi : MI} {mr : MR} (hB : ba_c sh mr) (n : Int32) : EV none 2 0 0 mX5_days 0 (en_l mX5_days [pv_r 0, pv_i n]) [] sh mi mr (fun v_ sh_ mi_ mr_ => ((¬ (1 ≤ n ∧ n ≤ 100)) ∧ (ok_r sh mr (-3) mi) v_ sh_ mi_ mr_) ∨ ((1 ≤ n ∧ n ≤ 100) ∧ (((mi 0 7) + n) ≤ 1000) ∧ (ok_r sh mr ((up_2 mi 0 7 ((mi 0 7) + n)) 0 7) (up_2 mi 0 7 ((mi 0 7) + n))) v_ sh_ mi_ mr_) ∨ ((1 ≤ n ∧ n ≤ 100) ∧ (¬ ((mi 0 7) + n) ≤ 1000) ∧ (ok_r sh mr (-3) mi) v_ sh_ mi_ mr_)) := by
  show EV none 2 0 0 mX5_days 0 [some (pv_r 0), some (pv_i n)] [] sh mi mr _
  refine ev_iload_n dX5_days_0 rfl ?_
  refine ev_iconst (v := 1) dX5_days_1 rfl ?_
  refine ev_bipush (v := 100) dX5_days_2 rfl ?_
  refine ev_s3i dX5_days_4 cs_X5_57 (Nat.le_of_ble_eq_true rfl) (by decide) (t_X5_within _ _ _) ?_
  refine ev_ifb_eq (tgt := 22) dX5_days_7 rfl (fun h7 => ?_) (fun h7 => ?_)
  · refine ev_bipush (v := (-3)) dX5_days_22 rfl ?_
    exact ev_ireturn (ty := .int) dX5_days_24 rfl rfl (Or.inl ⟨h7, rfl, rfl, rfl, rfl⟩)
  · refine ev_aload_n dX5_days_10 rfl ?_
    refine ev_geti dX5_days_11 fl_X5_49 rfl (hB.1 0 _ rfl) ?_
    refine ev_iload_n dX5_days_14 rfl ?_
    refine ev_iadd dX5_days_15 ?_
    refine ev_sipush (v := 1000) dX5_days_16 rfl ?_
    refine ev_icmp_le (tgt := 25) dX5_days_19 rfl (fun h19 => ?_) (fun h19 => ?_)
    · refine ev_aload_n dX5_days_25 rfl ?_
      refine ev_dup dX5_days_26 ?_
      refine ev_geti dX5_days_27 fl_X5_49 rfl (hB.1 0 _ rfl) ?_
      refine ev_iload_n dX5_days_30 rfl ?_
      refine ev_iadd dX5_days_31 ?_
      refine ev_puti dX5_days_32 fl_X5_49 rfl rfl (hB.1 0 _ rfl) ?_
      refine ev_aload_n dX5_days_35 rfl ?_
      refine ev_geti dX5_days_36 fl_X5_49 rfl (hB.1 0 _ rfl) ?_
      exact ev_ireturn (ty := .int) dX5_days_39 rfl rfl (Or.inr (Or.inl ⟨h7, h19, rfl, rfl, rfl, rfl⟩))
    · refine ev_bipush (v := (-3)) dX5_days_22 rfl ?_
      exact ev_ireturn (ty := .int) dX5_days_24 rfl rfl (Or.inr (Or.inr ⟨h7, h19, rfl, rfl, rfl, rfl⟩))
set_option maxRecDepth 100000 in
set_option maxHeartbeats 4000000 in
theorem t_X6_days {sh : SH} {mi : MI} {mr : MR} (hB : ba_c sh mr) (n : Int32) : EV none 2 0 0 mX6_days 0 (en_l mX6_days [pv_r 29, pv_i n]) [] sh mi mr (fun v_ sh_ mi_ mr_ => ((¬ (1 ≤ n ∧ n ≤ 100)) ∧ (ok_r sh mr (-3) mi) v_ sh_ mi_ mr_) ∨ ((1 ≤ n ∧ n ≤ 100) ∧ (((mi 29 0) + n) ≤ 1000) ∧ (ok_r sh mr ((up_2 mi 29 0 ((mi 29 0) + n)) 29 0) (up_2 mi 29 0 ((mi 29 0) + n))) v_ sh_ mi_ mr_) ∨ ((1 ≤ n ∧ n ≤ 100) ∧ (¬ ((mi 29 0) + n) ≤ 1000) ∧ (ok_r sh mr (-3) mi) v_ sh_ mi_ mr_)) := by
  show EV none 2 0 0 mX6_days 0 [some (pv_r 29), some (pv_i n)] [] sh mi mr _
  refine ev_iload_n dX6_days_0 rfl ?_
  refine ev_iconst (v := 1) dX6_days_1 rfl ?_
  refine ev_bipush (v := 100) dX6_days_2 rfl ?_
  refine ev_s3i dX6_days_4 cs_X6_129 (Nat.le_of_ble_eq_true rfl) (by decide) (t_X6_in _ _ _) ?_
  refine ev_ifb_eq (tgt := 22) dX6_days_7 rfl (fun h7 => ?_) (fun h7 => ?_)
  · refine ev_bipush (v := (-3)) dX6_days_22 rfl ?_
    exact ev_ireturn (ty := .int) dX6_days_24 rfl rfl (Or.inl ⟨h7, rfl, rfl, rfl, rfl⟩)
  · refine ev_aload_n dX6_days_10 rfl ?_
    refine ev_geti dX6_days_11 fl_X6_148 rfl (hB.1 29 _ rfl) ?_
    refine ev_iload_n dX6_days_14 rfl ?_
    refine ev_iadd dX6_days_15 ?_
    refine ev_sipush (v := 1000) dX6_days_16 rfl ?_
    refine ev_icmp_le (tgt := 25) dX6_days_19 rfl (fun h19 => ?_) (fun h19 => ?_)
    · refine ev_aload_n dX6_days_25 rfl ?_
      refine ev_dup dX6_days_26 ?_
      refine ev_geti dX6_days_27 fl_X6_148 rfl (hB.1 29 _ rfl) ?_
      refine ev_iload_n dX6_days_30 rfl ?_
      refine ev_iadd dX6_days_31 ?_
      refine ev_puti dX6_days_32 fl_X6_148 rfl rfl (hB.1 29 _ rfl) ?_
      refine ev_aload_n dX6_days_35 rfl ?_
      refine ev_geti dX6_days_36 fl_X6_148 rfl (hB.1 29 _ rfl) ?_
      exact ev_ireturn (ty := .int) dX6_days_39 rfl rfl (Or.inr (Or.inl ⟨h7, h19, rfl, rfl, rfl, rfl⟩))
    · refine ev_bipush (v := (-3)) dX6_days_22 rfl ?_
      exact ev_ireturn (ty := .int) dX6_days_24 rfl rfl (Or.inr (Or.inr ⟨h7, h19, rfl, rfl, rfl, rfl⟩))
set_option maxRecDepth 100000 in
set_option maxHeartbeats 4000000 in
theorem t_X1_noteRate {sh : SH} {mi : MI} {mr : MR} (hB : ba_c sh mr) (p1 p2 p3 p4 : Int32) (n : Nat) (hn : mi 22 0 = nI n) (hn30 : n ≤ 30) : EV none 0 0 0 mX1_noteRate 0 (en_l mX1_noteRate [pv_r 22, pv_i p1, pv_i p2, pv_i p3, pv_i p4]) [] sh mi mr (fun v_ sh_ mi_ mr_ => (((mi 22 0) < 30) ∧ (ok_r sh mr ((up_2 (up_2 (up_2 (up_2 (up_2 mi 23 n p1) 24 n p2) 25 n p3) 26 n p4) 22 0 (((up_2 (up_2 (up_2 (up_2 mi 23 n p1) 24 n p2) 25 n p3) 26 n p4) 22 0) + 1)) 22 0) (up_2 (up_2 (up_2 (up_2 (up_2 mi 23 n p1) 24 n p2) 25 n p3) 26 n p4) 22 0 (((up_2 (up_2 (up_2 (up_2 mi 23 n p1) 24 n p2) 25 n p3) 26 n p4) 22 0) + 1))) v_ sh_ mi_ mr_) ∨ ((¬ (mi 22 0) < 30) ∧ (ok_r sh mr (-6) mi) v_ sh_ mi_ mr_)) := by
  show EV none 0 0 0 mX1_noteRate 0 [some (pv_r 22), some (pv_i p1), some (pv_i p2), some (pv_i p3), some (pv_i p4)] [] sh mi mr _
  refine ev_aload_n dX1_noteRate_0 rfl ?_
  refine ev_geti dX1_noteRate_1 fl_X1_9 rfl (hB.1 22 _ rfl) ?_
  refine ev_bipush (v := 30) dX1_noteRate_4 rfl ?_
  refine ev_icmp_lt (tgt := 12) dX1_noteRate_6 rfl (fun h6 => ?_) (fun h6 => ?_)
  · refine ev_aload_n dX1_noteRate_12 rfl ?_
    refine ev_getq dX1_noteRate_13 fl_X1_18 rfl (hB.1 22 _ rfl) (hB.2 22 2 _ rfl) ?_
    refine ev_aload_n dX1_noteRate_16 rfl ?_
    refine ev_geti dX1_noteRate_17 fl_X1_9 rfl (hB.1 22 _ rfl) ?_
    refine ev_iload_n dX1_noteRate_20 rfl ?_
    refine ev_iast dX1_noteRate_21 (hB.1 23 _ rfl) (j := n) (by simp [up_2, hn]) ((nl_lt hn (b := 30) rfl (by omega) (by decide)).mp h6) (by decide) ?_
    refine ev_aload_n dX1_noteRate_22 rfl ?_
    refine ev_getq dX1_noteRate_23 fl_X1_22 rfl (hB.1 22 _ rfl) (hB.2 22 3 _ rfl) ?_
    refine ev_aload_n dX1_noteRate_26 rfl ?_
    refine ev_geti dX1_noteRate_27 fl_X1_9 rfl (hB.1 22 _ rfl) ?_
    refine ev_iload_n dX1_noteRate_30 rfl ?_
    refine ev_iast dX1_noteRate_31 (hB.1 24 _ rfl) (j := n) (by simp [up_2, hn]) ((nl_lt hn (b := 30) rfl (by omega) (by decide)).mp h6) (by decide) ?_
    refine ev_aload_n dX1_noteRate_32 rfl ?_
    refine ev_getq dX1_noteRate_33 fl_X1_25 rfl (hB.1 22 _ rfl) (hB.2 22 4 _ rfl) ?_
    refine ev_aload_n dX1_noteRate_36 rfl ?_
    refine ev_geti dX1_noteRate_37 fl_X1_9 rfl (hB.1 22 _ rfl) ?_
    refine ev_iload_n dX1_noteRate_40 rfl ?_
    refine ev_iast dX1_noteRate_41 (hB.1 25 _ rfl) (j := n) (by simp [up_2, hn]) ((nl_lt hn (b := 30) rfl (by omega) (by decide)).mp h6) (by decide) ?_
    refine ev_aload_n dX1_noteRate_42 rfl ?_
    refine ev_getq dX1_noteRate_43 fl_X1_28 rfl (hB.1 22 _ rfl) (hB.2 22 5 _ rfl) ?_
    refine ev_aload_n dX1_noteRate_46 rfl ?_
    refine ev_geti dX1_noteRate_47 fl_X1_9 rfl (hB.1 22 _ rfl) ?_
    refine ev_iload dX1_noteRate_50 rfl ?_
    refine ev_iast dX1_noteRate_52 (hB.1 26 _ rfl) (j := n) (by simp [up_2, hn]) ((nl_lt hn (b := 30) rfl (by omega) (by decide)).mp h6) (by decide) ?_
    refine ev_aload_n dX1_noteRate_53 rfl ?_
    refine ev_dup dX1_noteRate_54 ?_
    refine ev_geti dX1_noteRate_55 fl_X1_9 rfl (hB.1 22 _ rfl) ?_
    refine ev_iconst (v := 1) dX1_noteRate_58 rfl ?_
    refine ev_iadd dX1_noteRate_59 ?_
    refine ev_puti dX1_noteRate_60 fl_X1_9 rfl rfl (hB.1 22 _ rfl) ?_
    refine ev_aload_n dX1_noteRate_63 rfl ?_
    refine ev_geti dX1_noteRate_64 fl_X1_9 rfl (hB.1 22 _ rfl) ?_
    exact ev_ireturn (ty := .int) dX1_noteRate_67 rfl rfl (Or.inl ⟨h6, rfl, rfl, rfl, rfl⟩)
  · refine ev_bipush (v := (-6)) dX1_noteRate_9 rfl ?_
    exact ev_ireturn (ty := .int) dX1_noteRate_11 rfl rfl (Or.inr ⟨h6, rfl, rfl, rfl, rfl⟩)
set_option maxRecDepth 100000 in
set_option maxHeartbeats 4000000 in
theorem t_X5_rate {sh : SH} {mi : MI} {mr : MR} (hB : ba_c sh mr) (p1 p2 p3 : Int32) (n : Nat) (hn : mi 22 0 = nI n) (hn30 : n ≤ 30) : EV none 2 0 0 mX5_rate 0 (en_l mX5_rate [pv_r 0, pv_i p1, pv_i p2, pv_i p3]) [] sh mi mr (fun v_ sh_ mi_ mr_ => ((0 ≤ p1 ∧ p1 ≤ 4) ∧ (¬ (0 ≤ p2 ∧ p2 ≤ 1000)) ∧ (ok_r sh mr (-3) mi) v_ sh_ mi_ mr_) ∨ ((0 ≤ p1 ∧ p1 ≤ 4) ∧ (0 ≤ p2 ∧ p2 ≤ 1000) ∧ (0 ≤ p3 ∧ p3 ≤ 500) ∧ ((mi 22 0) < 30) ∧ (ok_r sh mr ((up_2 (up_2 (up_2 (up_2 (up_2 mi 23 n p1) 24 n p2) 25 n p3) 26 n (mi 0 7)) 22 0 (((up_2 (up_2 (up_2 (up_2 mi 23 n p1) 24 n p2) 25 n p3) 26 n (mi 0 7)) 22 0) + 1)) 22 0) (up_2 (up_2 (up_2 (up_2 (up_2 mi 23 n p1) 24 n p2) 25 n p3) 26 n (mi 0 7)) 22 0 (((up_2 (up_2 (up_2 (up_2 mi 23 n p1) 24 n p2) 25 n p3) 26 n (mi 0 7)) 22 0) + 1))) v_ sh_ mi_ mr_) ∨ ((0 ≤ p1 ∧ p1 ≤ 4) ∧ (0 ≤ p2 ∧ p2 ≤ 1000) ∧ (0 ≤ p3 ∧ p3 ≤ 500) ∧ (¬ (mi 22 0) < 30) ∧ (ok_r sh mr (-6) mi) v_ sh_ mi_ mr_) ∨ ((0 ≤ p1 ∧ p1 ≤ 4) ∧ (0 ≤ p2 ∧ p2 ≤ 1000) ∧ (¬ (0 ≤ p3 ∧ p3 ≤ 500)) ∧ (ok_r sh mr (-3) mi) v_ sh_ mi_ mr_) ∨ ((¬ (0 ≤ p1 ∧ p1 ≤ 4)) ∧ (ok_r sh mr (-2) mi) v_ sh_ mi_ mr_)) := by
  show EV none 2 0 0 mX5_rate 0 [some (pv_r 0), some (pv_i p1), some (pv_i p2), some (pv_i p3)] [] sh mi mr _
  refine ev_iload_n dX5_rate_0 rfl ?_
  refine ev_s1i dX5_rate_1 cs_X5_105 (Nat.le_of_ble_eq_true rfl) (by decide) (t_X5_isBench _) ?_
  refine ev_ifb_ne (tgt := 10) dX5_rate_4 rfl (fun h4 => ?_) (fun h4 => ?_)
  · refine ev_iload_n dX5_rate_10 rfl ?_
    refine ev_s1i dX5_rate_11 cs_X5_225 (Nat.le_of_ble_eq_true rfl) (by decide) (t_X5_isDay _) ?_
    refine ev_ifb_eq (tgt := 28) dX5_rate_14 rfl (fun h14 => ?_) (fun h14 => ?_)
    · refine ev_bipush (v := (-3)) dX5_rate_28 rfl ?_
      exact ev_ireturn (ty := .int) dX5_rate_30 rfl rfl (Or.inl ⟨h4, h14, rfl, rfl, rfl, rfl⟩)
    · refine ev_iload_n dX5_rate_17 rfl ?_
      refine ev_iconst (v := 0) dX5_rate_18 rfl ?_
      refine ev_sipush (v := 500) dX5_rate_19 rfl ?_
      refine ev_s3i dX5_rate_22 cs_X5_57 (Nat.le_of_ble_eq_true rfl) (by decide) (t_X5_within _ _ _) ?_
      refine ev_ifb_ne (tgt := 31) dX5_rate_25 rfl (fun h25 => ?_) (fun h25 => ?_)
      · refine ev_aload_n dX5_rate_31 rfl ?_
        refine ev_getq dX5_rate_32 fl_X5_38 rfl (hB.1 0 _ rfl) (hB.2 0 4 _ rfl) ?_
        refine ev_iload_n dX5_rate_35 rfl ?_
        refine ev_iload_n dX5_rate_36 rfl ?_
        refine ev_iload_n dX5_rate_37 rfl ?_
        refine ev_aload_n dX5_rate_38 rfl ?_
        refine ev_geti dX5_rate_39 fl_X5_49 rfl (hB.1 0 _ rfl) ?_
        refine ev_callv (av := [pv_i p1, pv_i p2, pv_i p3, pv_i (mi 0 7)]) dX5_rate_42 cv_X5_228 (hB.1 22 _ rfl) rfl rfl (Nat.le_of_ble_eq_true rfl) (by decide) (Or.inl (fun v_ s_ m_ r_ h_ => by rcases h_ with ⟨_, _, e_, _, _⟩ | ⟨_, _, e_, _, _⟩ <;> rw [e_])) (Nat.zero_add _) (Nat.zero_add _) (t_X1_noteRate hB _ _ _ _ n hn hn30) ?_
        rintro v_ sh_ mi_ mr_ (⟨qh6, rfl, rfl, rfl, rfl⟩ | ⟨qh6, rfl, rfl, rfl, rfl⟩)
        · exact ev_ireturn (ty := .int) dX5_rate_45 rfl rfl (Or.inr (Or.inl ⟨h4, h14, h25, qh6, rfl, rfl, rfl, rfl⟩))
        · exact ev_ireturn (ty := .int) dX5_rate_45 rfl rfl (Or.inr (Or.inr (Or.inl ⟨h4, h14, h25, qh6, rfl, rfl, rfl, rfl⟩)))
      · refine ev_bipush (v := (-3)) dX5_rate_28 rfl ?_
        exact ev_ireturn (ty := .int) dX5_rate_30 rfl rfl (Or.inr (Or.inr (Or.inr (Or.inl ⟨h4, h14, h25, rfl, rfl, rfl, rfl⟩))))
  · refine ev_bipush (v := (-2)) dX5_rate_7 rfl ?_
    exact ev_ireturn (ty := .int) dX5_rate_9 rfl rfl (Or.inr (Or.inr (Or.inr (Or.inr ⟨h4, rfl, rfl, rfl, rfl⟩))))
set_option maxRecDepth 100000 in
set_option maxHeartbeats 4000000 in
theorem t_X6_rate {sh : SH} {mi : MI} {mr : MR} (hB : ba_c sh mr) (p1 p2 p3 : Int32) (n : Nat) (hn : mi 29 42 = nI n) (hn30 : n ≤ 30) : EV none 2 0 0 mX6_rate 0 (en_l mX6_rate [pv_r 29, pv_i p1, pv_i p2, pv_i p3]) [] sh mi mr (fun v_ sh_ mi_ mr_ => ((0 ≤ p1 ∧ p1 ≤ 4) ∧ (¬ (0 ≤ p2 ∧ p2 ≤ 1000)) ∧ (ok_r sh mr (-3) mi) v_ sh_ mi_ mr_) ∨ ((0 ≤ p1 ∧ p1 ≤ 4) ∧ (0 ≤ p2 ∧ p2 ≤ 1000) ∧ (0 ≤ p3 ∧ p3 ≤ 500) ∧ (¬ (mi 29 42) = 30) ∧ (ok_r sh mr ((up_2 (up_2 (up_2 (up_2 (up_2 mi 63 n p1) 64 n p2) 65 n p3) 66 n ((up_2 (up_2 (up_2 mi 63 n p1) 64 n p2) 65 n p3) 29 0)) 29 42 (((up_2 (up_2 (up_2 (up_2 mi 63 n p1) 64 n p2) 65 n p3) 66 n ((up_2 (up_2 (up_2 mi 63 n p1) 64 n p2) 65 n p3) 29 0)) 29 42) + 1)) 29 42) (up_2 (up_2 (up_2 (up_2 (up_2 mi 63 n p1) 64 n p2) 65 n p3) 66 n ((up_2 (up_2 (up_2 mi 63 n p1) 64 n p2) 65 n p3) 29 0)) 29 42 (((up_2 (up_2 (up_2 (up_2 mi 63 n p1) 64 n p2) 65 n p3) 66 n ((up_2 (up_2 (up_2 mi 63 n p1) 64 n p2) 65 n p3) 29 0)) 29 42) + 1))) v_ sh_ mi_ mr_) ∨ ((0 ≤ p1 ∧ p1 ≤ 4) ∧ (0 ≤ p2 ∧ p2 ≤ 1000) ∧ (0 ≤ p3 ∧ p3 ≤ 500) ∧ ((mi 29 42) = 30) ∧ (ok_r sh mr (-6) mi) v_ sh_ mi_ mr_) ∨ ((0 ≤ p1 ∧ p1 ≤ 4) ∧ (0 ≤ p2 ∧ p2 ≤ 1000) ∧ (¬ (0 ≤ p3 ∧ p3 ≤ 500)) ∧ (ok_r sh mr (-3) mi) v_ sh_ mi_ mr_) ∨ ((¬ (0 ≤ p1 ∧ p1 ≤ 4)) ∧ (ok_r sh mr (-2) mi) v_ sh_ mi_ mr_)) := by
  show EV none 2 0 0 mX6_rate 0 [some (pv_r 29), some (pv_i p1), some (pv_i p2), some (pv_i p3)] [] sh mi mr _
  refine ev_iload_n dX6_rate_0 rfl ?_
  refine ev_s1i dX6_rate_1 cs_X6_151 (Nat.le_of_ble_eq_true rfl) (by decide) (t_X6_isBench _) ?_
  refine ev_ifb_ne (tgt := 10) dX6_rate_4 rfl (fun h4 => ?_) (fun h4 => ?_)
  · refine ev_iload_n dX6_rate_10 rfl ?_
    refine ev_s1i dX6_rate_11 cs_X6_209 (Nat.le_of_ble_eq_true rfl) (by decide) (t_X6_isDay _) ?_
    refine ev_ifb_eq (tgt := 28) dX6_rate_14 rfl (fun h14 => ?_) (fun h14 => ?_)
    · refine ev_bipush (v := (-3)) dX6_rate_28 rfl ?_
      exact ev_ireturn (ty := .int) dX6_rate_30 rfl rfl (Or.inl ⟨h4, h14, rfl, rfl, rfl, rfl⟩)
    · refine ev_iload_n dX6_rate_17 rfl ?_
      refine ev_iconst (v := 0) dX6_rate_18 rfl ?_
      refine ev_sipush (v := 500) dX6_rate_19 rfl ?_
      refine ev_s3i dX6_rate_22 cs_X6_129 (Nat.le_of_ble_eq_true rfl) (by decide) (t_X6_in _ _ _) ?_
      refine ev_ifb_ne (tgt := 31) dX6_rate_25 rfl (fun h25 => ?_) (fun h25 => ?_)
      · refine ev_aload_n dX6_rate_31 rfl ?_
        refine ev_geti dX6_rate_32 fl_X6_212 rfl (hB.1 29 _ rfl) ?_
        refine ev_bipush (v := 30) dX6_rate_35 rfl ?_
        refine ev_icmp_ne (tgt := 43) dX6_rate_37 rfl (fun h37 => ?_) (fun h37 => ?_)
        · refine ev_aload_n dX6_rate_43 rfl ?_
          refine ev_getq dX6_rate_44 fl_X6_114 rfl (hB.1 29 _ rfl) (hB.2 29 43 _ rfl) ?_
          refine ev_aload_n dX6_rate_47 rfl ?_
          refine ev_geti dX6_rate_48 fl_X6_212 rfl (hB.1 29 _ rfl) ?_
          refine ev_iload_n dX6_rate_51 rfl ?_
          refine ev_iast dX6_rate_52 (hB.1 63 _ rfl) (j := n) (by simp [up_2, hn]) (by have := (not_congr (nl_eq hn (b := 30) rfl (by omega) (by decide))).mp h37; omega) (by decide) ?_
          refine ev_aload_n dX6_rate_53 rfl ?_
          refine ev_getq dX6_rate_54 fl_X6_117 rfl (hB.1 29 _ rfl) (hB.2 29 44 _ rfl) ?_
          refine ev_aload_n dX6_rate_57 rfl ?_
          refine ev_geti dX6_rate_58 fl_X6_212 rfl (hB.1 29 _ rfl) ?_
          refine ev_iload_n dX6_rate_61 rfl ?_
          refine ev_iast dX6_rate_62 (hB.1 64 _ rfl) (j := n) (by simp [up_2, hn]) (by have := (not_congr (nl_eq hn (b := 30) rfl (by omega) (by decide))).mp h37; omega) (by decide) ?_
          refine ev_aload_n dX6_rate_63 rfl ?_
          refine ev_getq dX6_rate_64 fl_X6_120 rfl (hB.1 29 _ rfl) (hB.2 29 45 _ rfl) ?_
          refine ev_aload_n dX6_rate_67 rfl ?_
          refine ev_geti dX6_rate_68 fl_X6_212 rfl (hB.1 29 _ rfl) ?_
          refine ev_iload_n dX6_rate_71 rfl ?_
          refine ev_iast dX6_rate_72 (hB.1 65 _ rfl) (j := n) (by simp [up_2, hn]) (by have := (not_congr (nl_eq hn (b := 30) rfl (by omega) (by decide))).mp h37; omega) (by decide) ?_
          refine ev_aload_n dX6_rate_73 rfl ?_
          refine ev_getq dX6_rate_74 fl_X6_123 rfl (hB.1 29 _ rfl) (hB.2 29 46 _ rfl) ?_
          refine ev_aload_n dX6_rate_77 rfl ?_
          refine ev_geti dX6_rate_78 fl_X6_212 rfl (hB.1 29 _ rfl) ?_
          refine ev_aload_n dX6_rate_81 rfl ?_
          refine ev_geti dX6_rate_82 fl_X6_148 rfl (hB.1 29 _ rfl) ?_
          refine ev_iast dX6_rate_85 (hB.1 66 _ rfl) (j := n) (by simp [up_2, hn]) (by have := (not_congr (nl_eq hn (b := 30) rfl (by omega) (by decide))).mp h37; omega) (by decide) ?_
          refine ev_aload_n dX6_rate_86 rfl ?_
          refine ev_dup dX6_rate_87 ?_
          refine ev_geti dX6_rate_88 fl_X6_212 rfl (hB.1 29 _ rfl) ?_
          refine ev_iconst (v := 1) dX6_rate_91 rfl ?_
          refine ev_iadd dX6_rate_92 ?_
          refine ev_puti dX6_rate_93 fl_X6_212 rfl rfl (hB.1 29 _ rfl) ?_
          refine ev_aload_n dX6_rate_96 rfl ?_
          refine ev_geti dX6_rate_97 fl_X6_212 rfl (hB.1 29 _ rfl) ?_
          exact ev_ireturn (ty := .int) dX6_rate_100 rfl rfl (Or.inr (Or.inl ⟨h4, h14, h25, h37, rfl, rfl, rfl, rfl⟩))
        · refine ev_bipush (v := (-6)) dX6_rate_40 rfl ?_
          exact ev_ireturn (ty := .int) dX6_rate_42 rfl rfl (Or.inr (Or.inr (Or.inl ⟨h4, h14, h25, h37, rfl, rfl, rfl, rfl⟩)))
      · refine ev_bipush (v := (-3)) dX6_rate_28 rfl ?_
        exact ev_ireturn (ty := .int) dX6_rate_30 rfl rfl (Or.inr (Or.inr (Or.inr (Or.inl ⟨h4, h14, h25, rfl, rfl, rfl, rfl⟩))))
  · refine ev_bipush (v := (-2)) dX6_rate_7 rfl ?_
    exact ev_ireturn (ty := .int) dX6_rate_9 rfl rfl (Or.inr (Or.inr (Or.inr (Or.inr ⟨h4, rfl, rfl, rfl, rfl⟩))))
/-- which of the rates counts, of the first i: the latest beginning, the last told -/
def ro (rb rf rt : Nat → Int32) (b d t : Int32) : Nat → Option Nat
  | 0 => none
  | i + 1 => match ro rb rf rt b d t i with
    | none => if rb i = b ∧ rt i ≤ t ∧ rf i ≤ d then some i else none
    | some k => if (rb i = b ∧ rt i ≤ t ∧ rf i ≤ d) ∧ rf k ≤ rf i then some i else some k
def ro_l (rf : Nat → Int32) (q : Option Nat) : Int32 := match q with
  | none => -1
  | some k => rf k
def ro_p (rp : Nat → Int32) (q : Option Nat) : Int32 := match q with
  | none => 0
  | some k => rp k
theorem ro_lt {rb rf rt : Nat → Int32} {b d t : Int32} : ∀ {i k : Nat}, ro rb rf rt b d t i = some k → k < i
  | 0, k, h => by cases h
  | i + 1, k, h => by
    unfold ro at h
    split at h
    · split at h
      · cases h; omega
      · cases h
    · rename_i q hq
      split at h
      · cases h; omega
      · cases h
        have := ro_lt hq
        omega
theorem ro_take {rb rf rt : Nat → Int32} {b d t : Int32} {i : Nat} (h1 : rb i = b) (h2 : rt i ≤ t) (h3 : rf i ≤ d) (h4 : ¬ rf i < ro_l rf (ro rb rf rt b d t i)) : ro rb rf rt b d t (i + 1) = some i := by
  unfold ro
  split
  · rw [if_pos ⟨h1, h2, h3⟩]
  · rename_i k hk
    rw [hk] at h4
    rw [if_pos ⟨⟨h1, h2, h3⟩, Int32.not_lt.mp h4⟩]
theorem ro_keep {rb rf rt : Nat → Int32} {b d t : Int32} {i : Nat} (h : ¬ (rb i = b ∧ rt i ≤ t ∧ rf i ≤ d)) : ro rb rf rt b d t (i + 1) = ro rb rf rt b d t i := by
  conv => lhs; unfold ro
  split
  · rename_i hk
    rw [if_neg h, hk]
  · rename_i k hk
    rw [if_neg (fun q => h q.1), hk]
theorem ro_less {rb rf rt : Nat → Int32} {b d t : Int32} {i : Nat} (hp : -1 ≤ rf i) (h : rf i < ro_l rf (ro rb rf rt b d t i)) : ro rb rf rt b d t (i + 1) = ro rb rf rt b d t i := by
  conv => lhs; unfold ro
  split
  · rename_i hk
    rw [hk] at h
    exact absurd hp (Int32.not_le.mpr h)
  · rename_i k hk
    rw [hk] at h
    rw [if_neg (fun q => Int32.not_le.mpr h q.2), hk]
theorem ro_congr {rb rf rt rb2 rf2 rt2 : Nat → Int32} {b d t : Int32} : ∀ n, (∀ i, i < n → rb i = rb2 i ∧ rf i = rf2 i ∧ rt i = rt2 i) → ro rb rf rt b d t n = ro rb2 rf2 rt2 b d t n
  | 0, _ => rfl
  | n + 1, h => by
    have ih := ro_congr (b := b) (d := d) (t := t) n (fun i hi => h i (by omega))
    unfold ro
    rw [ih]
    obtain ⟨e1, e2, e3⟩ := h n (by omega)
    rw [e1, e2, e3]
    split
    · rfl
    · rename_i k hk
      have hk2 := ro_lt hk
      rw [(h k (by omega)).2.1]
/-- the wages of the first i passes -/
def wg (pb pd rb rf rt rp : Nat → Int32) (n : Nat) (a b t : Int32) : Nat → Int32
  | 0 => 0
  | i + 1 => if a ≤ pd i ∧ pd i ≤ b then wg pb pd rb rf rt rp n a b t i + ro_p rp (ro rb rf rt (pb i) (pd i) t n) else wg pb pd rb rf rt rp n a b t i
theorem wg_congr {pb pd rb rf rt rp pb2 pd2 rb2 rf2 rt2 rp2 : Nat → Int32} {a b t : Int32} {n : Nat} (h : ∀ i, i < n → rb i = rb2 i ∧ rf i = rf2 i ∧ rt i = rt2 i ∧ rp i = rp2 i) : ∀ m, (∀ i, i < m → pb i = pb2 i ∧ pd i = pd2 i) → wg pb pd rb rf rt rp n a b t m = wg pb2 pd2 rb2 rf2 rt2 rp2 n a b t m
  | 0, _ => rfl
  | m + 1, hm => by
    have ih := wg_congr (a := a) (b := b) (t := t) h m (fun i hi => hm i (by omega))
    obtain ⟨e1, e2⟩ := hm m (by omega)
    unfold wg
    rw [ih, e1, e2, ro_congr n (fun i hi => ⟨(h i hi).1, (h i hi).2.1, (h i hi).2.2.1⟩)]
    cases hr : ro rb2 rf2 rt2 (pb2 m) (pd2 m) t n with
    | none => rfl
    | some k =>
      have := ro_lt hr
      simp [ro_p, (h k this).2.2.2]
set_option maxRecDepth 100000 in
set_option maxHeartbeats 4000000 in
theorem lp_X1_penceAt {sh : SH} {mi : MI} {mr : MR} (hB : ba_c sh mr) (p1 p2 p3 : Int32) (n : Nat) (hn : mi 22 0 = nI n) (hn30 : n ≤ 30) (hp : ∀ i, i < n → -1 ≤ mi 24 i) : ∀ i, i ≤ n → EV none 0 0 0 mX1_penceAt 9 [some (pv_r 22), some (pv_i p1), some (pv_i p2), some (pv_i p3), some (pv_i (ro_l (mi 24) (ro (mi 23) (mi 24) (mi 26) p1 p2 p3 i))), some (pv_i (ro_p (mi 25) (ro (mi 23) (mi 24) (mi 26) p1 p2 p3 i))), some (pv_i (nI i)), none] [] sh mi mr (ok_r sh mr (ro_p (mi 25) (ro (mi 23) (mi 24) (mi 26) p1 p2 p3 n)) mi) := by
  refine lp_i n (fun i hi ih => ?_)
  refine ev_iload dX1_penceAt_9 rfl ?_
  refine ev_aload_n dX1_penceAt_11 rfl ?_
  refine ev_geti dX1_penceAt_12 fl_X1_9 rfl (hB.1 22 _ rfl) ?_
  refine ev_icmp_ge (tgt := 99) dX1_penceAt_15 rfl (fun h15 => ?_) (fun h15 => ?_)
  · have hin : i = n := by have := (nl_le hn rfl (by omega) (by omega)).mp h15; omega
    subst hin
    refine ev_iload dX1_penceAt_99 rfl ?_
    exact ev_ireturn (ty := .int) dX1_penceAt_101 rfl rfl ⟨rfl, rfl, rfl, rfl⟩
  · have hlt : i < n := by have := (not_congr (nl_le hn rfl (by omega) (by omega))).mp h15; omega
    refine ev_aload_n dX1_penceAt_18 rfl ?_
    refine ev_getq dX1_penceAt_19 fl_X1_18 rfl (hB.1 22 _ rfl) (hB.2 22 2 _ rfl) ?_
    refine ev_iload dX1_penceAt_22 rfl ?_
    refine ev_iald dX1_penceAt_24 (hB.1 23 _ rfl) (j := i) rfl (by omega) (by decide) ?_
    refine ev_iload_n dX1_penceAt_25 rfl ?_
    refine ev_icmp_ne (tgt := 55) dX1_penceAt_26 rfl (fun h26 => ?_) (fun h26 => ?_)
    · refine ev_iconst (v := 0) dX1_penceAt_55 rfl ?_
      refine ev_istore dX1_penceAt_56 (by decide) ?_
      refine ev_iload dX1_penceAt_58 rfl ?_
      refine ev_if_eq_t (tgt := 93) dX1_penceAt_60 rfl (by decide) ?_
      refine ev_iincN dX1_penceAt_93 rfl (by decide) ?_
      refine ev_goto (tgt := 9) dX1_penceAt_96 rfl ?_
      have q := ih hlt
      rw [ro_keep (fun q => h26 q.1)] at q
      exact ev_fg 7 q
    · refine ev_aload_n dX1_penceAt_29 rfl ?_
      refine ev_getq dX1_penceAt_30 fl_X1_28 rfl (hB.1 22 _ rfl) (hB.2 22 5 _ rfl) ?_
      refine ev_iload dX1_penceAt_33 rfl ?_
      refine ev_iald dX1_penceAt_35 (hB.1 26 _ rfl) (j := i) rfl (by omega) (by decide) ?_
      refine ev_iload_n dX1_penceAt_36 rfl ?_
      refine ev_icmp_gt (tgt := 55) dX1_penceAt_37 rfl (fun h37 => ?_) (fun h37 => ?_)
      · refine ev_iconst (v := 0) dX1_penceAt_55 rfl ?_
        refine ev_istore dX1_penceAt_56 (by decide) ?_
        refine ev_iload dX1_penceAt_58 rfl ?_
        refine ev_if_eq_t (tgt := 93) dX1_penceAt_60 rfl (by decide) ?_
        refine ev_iincN dX1_penceAt_93 rfl (by decide) ?_
        refine ev_goto (tgt := 9) dX1_penceAt_96 rfl ?_
        have q := ih hlt
        rw [ro_keep (fun q => absurd q.2.1 (Int32.not_le.mpr h37))] at q
        exact ev_fg 7 q
      · refine ev_aload_n dX1_penceAt_40 rfl ?_
        refine ev_getq dX1_penceAt_41 fl_X1_22 rfl (hB.1 22 _ rfl) (hB.2 22 3 _ rfl) ?_
        refine ev_iload dX1_penceAt_44 rfl ?_
        refine ev_iald dX1_penceAt_46 (hB.1 24 _ rfl) (j := i) rfl (by omega) (by decide) ?_
        refine ev_iload_n dX1_penceAt_47 rfl ?_
        refine ev_icmp_gt (tgt := 55) dX1_penceAt_48 rfl (fun h48 => ?_) (fun h48 => ?_)
        · refine ev_iconst (v := 0) dX1_penceAt_55 rfl ?_
          refine ev_istore dX1_penceAt_56 (by decide) ?_
          refine ev_iload dX1_penceAt_58 rfl ?_
          refine ev_if_eq_t (tgt := 93) dX1_penceAt_60 rfl (by decide) ?_
          refine ev_iincN dX1_penceAt_93 rfl (by decide) ?_
          refine ev_goto (tgt := 9) dX1_penceAt_96 rfl ?_
          have q := ih hlt
          rw [ro_keep (fun q => absurd q.2.2 (Int32.not_le.mpr h48))] at q
          exact ev_fg 7 q
        · refine ev_iconst (v := 1) dX1_penceAt_51 rfl ?_
          refine ev_goto (tgt := 56) dX1_penceAt_52 rfl ?_
          refine ev_istore dX1_penceAt_56 (by decide) ?_
          refine ev_iload dX1_penceAt_58 rfl ?_
          refine ev_if_eq_f (tgt := 93) dX1_penceAt_60 rfl (by decide) ?_
          refine ev_aload_n dX1_penceAt_63 rfl ?_
          refine ev_getq dX1_penceAt_64 fl_X1_22 rfl (hB.1 22 _ rfl) (hB.2 22 3 _ rfl) ?_
          refine ev_iload dX1_penceAt_67 rfl ?_
          refine ev_iald dX1_penceAt_69 (hB.1 24 _ rfl) (j := i) rfl (by omega) (by decide) ?_
          refine ev_iload dX1_penceAt_70 rfl ?_
          refine ev_icmp_lt (tgt := 93) dX1_penceAt_72 rfl (fun h72 => ?_) (fun h72 => ?_)
          · refine ev_iincN dX1_penceAt_93 rfl (by decide) ?_
            refine ev_goto (tgt := 9) dX1_penceAt_96 rfl ?_
            have q := ih hlt
            rw [ro_less (hp i hlt) h72] at q
            exact ev_fg 7 q
          · refine ev_aload_n dX1_penceAt_75 rfl ?_
            refine ev_getq dX1_penceAt_76 fl_X1_22 rfl (hB.1 22 _ rfl) (hB.2 22 3 _ rfl) ?_
            refine ev_iload dX1_penceAt_79 rfl ?_
            refine ev_iald dX1_penceAt_81 (hB.1 24 _ rfl) (j := i) rfl (by omega) (by decide) ?_
            refine ev_istore dX1_penceAt_82 (by decide) ?_
            refine ev_aload_n dX1_penceAt_84 rfl ?_
            refine ev_getq dX1_penceAt_85 fl_X1_25 rfl (hB.1 22 _ rfl) (hB.2 22 4 _ rfl) ?_
            refine ev_iload dX1_penceAt_88 rfl ?_
            refine ev_iald dX1_penceAt_90 (hB.1 25 _ rfl) (j := i) rfl (by omega) (by decide) ?_
            refine ev_istore dX1_penceAt_91 (by decide) ?_
            refine ev_iincN dX1_penceAt_93 rfl (by decide) ?_
            refine ev_goto (tgt := 9) dX1_penceAt_96 rfl ?_
            have q := ih hlt
            rw [ro_take h26 (Int32.not_lt.mp h37) (Int32.not_lt.mp h48) h72] at q
            exact ev_fg 7 q
set_option maxRecDepth 100000 in
set_option maxHeartbeats 4000000 in
theorem t_X1_penceAt {sh : SH} {mi : MI} {mr : MR} (hB : ba_c sh mr) (p1 p2 p3 : Int32) (n : Nat) (hn : mi 22 0 = nI n) (hn30 : n ≤ 30) (hp : ∀ i, i < n → -1 ≤ mi 24 i) : EV none 0 0 0 mX1_penceAt 0 (en_l mX1_penceAt [pv_r 22, pv_i p1, pv_i p2, pv_i p3]) [] sh mi mr (ok_r sh mr (ro_p (mi 25) (ro (mi 23) (mi 24) (mi 26) p1 p2 p3 n)) mi) := by
  show EV none 0 0 0 mX1_penceAt 0 [some (pv_r 22), some (pv_i p1), some (pv_i p2), some (pv_i p3), none, none, none, none] [] sh mi mr _
  refine ev_iconst (v := (-1)) dX1_penceAt_0 rfl ?_
  refine ev_istore dX1_penceAt_1 (by decide) ?_
  refine ev_iconst (v := 0) dX1_penceAt_3 rfl ?_
  refine ev_istore dX1_penceAt_4 (by decide) ?_
  refine ev_iconst (v := 0) dX1_penceAt_6 rfl ?_
  refine ev_istore dX1_penceAt_7 (by decide) ?_
  exact lp_X1_penceAt hB p1 p2 p3 n hn hn30 hp 0 (Nat.zero_le n)
set_option maxRecDepth 100000 in
set_option maxHeartbeats 4000000 in
theorem t_X5_rateAt {sh : SH} {mi : MI} {mr : MR} (hB : ba_c sh mr) (p1 p2 p3 : Int32) (n : Nat) (hn : mi 22 0 = nI n) (hn30 : n ≤ 30) (hp : ∀ i, i < n → -1 ≤ mi 24 i) : EV none 2 0 0 mX5_rateAt 0 (en_l mX5_rateAt [pv_r 0, pv_i p1, pv_i p2, pv_i p3]) [] sh mi mr (fun v_ sh_ mi_ mr_ => ((0 ≤ p1 ∧ p1 ≤ 4) ∧ (¬ (0 ≤ p2 ∧ p2 ≤ 1000)) ∧ (ok_r sh mr (-3) mi) v_ sh_ mi_ mr_) ∨ ((0 ≤ p1 ∧ p1 ≤ 4) ∧ (0 ≤ p2 ∧ p2 ≤ 1000) ∧ (0 ≤ p3 ∧ p3 ≤ 1000) ∧ (ok_r sh mr (ro_p (mi 25) (ro (mi 23) (mi 24) (mi 26) p1 p2 p3 n)) mi) v_ sh_ mi_ mr_) ∨ ((0 ≤ p1 ∧ p1 ≤ 4) ∧ (0 ≤ p2 ∧ p2 ≤ 1000) ∧ (¬ (0 ≤ p3 ∧ p3 ≤ 1000)) ∧ (ok_r sh mr (-3) mi) v_ sh_ mi_ mr_) ∨ ((¬ (0 ≤ p1 ∧ p1 ≤ 4)) ∧ (ok_r sh mr (-2) mi) v_ sh_ mi_ mr_)) := by
  show EV none 2 0 0 mX5_rateAt 0 [some (pv_r 0), some (pv_i p1), some (pv_i p2), some (pv_i p3)] [] sh mi mr _
  refine ev_iload_n dX5_rateAt_0 rfl ?_
  refine ev_s1i dX5_rateAt_1 cs_X5_105 (Nat.le_of_ble_eq_true rfl) (by decide) (t_X5_isBench _) ?_
  refine ev_ifb_ne (tgt := 10) dX5_rateAt_4 rfl (fun h4 => ?_) (fun h4 => ?_)
  · refine ev_iload_n dX5_rateAt_10 rfl ?_
    refine ev_s1i dX5_rateAt_11 cs_X5_225 (Nat.le_of_ble_eq_true rfl) (by decide) (t_X5_isDay _) ?_
    refine ev_ifb_eq (tgt := 24) dX5_rateAt_14 rfl (fun h14 => ?_) (fun h14 => ?_)
    · refine ev_bipush (v := (-3)) dX5_rateAt_24 rfl ?_
      exact ev_ireturn (ty := .int) dX5_rateAt_26 rfl rfl (Or.inl ⟨h4, h14, rfl, rfl, rfl, rfl⟩)
    · refine ev_iload_n dX5_rateAt_17 rfl ?_
      refine ev_s1i dX5_rateAt_18 cs_X5_225 (Nat.le_of_ble_eq_true rfl) (by decide) (t_X5_isDay _) ?_
      refine ev_ifb_ne (tgt := 27) dX5_rateAt_21 rfl (fun h21 => ?_) (fun h21 => ?_)
      · refine ev_aload_n dX5_rateAt_27 rfl ?_
        refine ev_getq dX5_rateAt_28 fl_X5_38 rfl (hB.1 0 _ rfl) (hB.2 0 4 _ rfl) ?_
        refine ev_iload_n dX5_rateAt_31 rfl ?_
        refine ev_iload_n dX5_rateAt_32 rfl ?_
        refine ev_iload_n dX5_rateAt_33 rfl ?_
        refine ev_v3i dX5_rateAt_34 cv_X5_232 (hB.1 22 _ rfl) (Nat.le_of_ble_eq_true rfl) (by decide) (t_X1_penceAt hB _ _ _ n hn hn30 hp) ?_
        exact ev_ireturn (ty := .int) dX5_rateAt_37 rfl rfl (Or.inr (Or.inl ⟨h4, h14, h21, rfl, rfl, rfl, rfl⟩))
      · refine ev_bipush (v := (-3)) dX5_rateAt_24 rfl ?_
        exact ev_ireturn (ty := .int) dX5_rateAt_26 rfl rfl (Or.inr (Or.inr (Or.inl ⟨h4, h14, h21, rfl, rfl, rfl, rfl⟩)))
  · refine ev_bipush (v := (-2)) dX5_rateAt_7 rfl ?_
    exact ev_ireturn (ty := .int) dX5_rateAt_9 rfl rfl (Or.inr (Or.inr (Or.inr ⟨h4, rfl, rfl, rfl, rfl⟩)))
set_option maxRecDepth 100000 in
set_option maxHeartbeats 4000000 in
theorem lp_X1_earned {sh : SH} {mi : MI} {mr : MR} (hB : ba_c sh mr) (p1 p2 p3 : Int32) (n : Nat) (hn : mi 22 0 = nI n) (hn30 : n ≤ 30) (hp : ∀ i, i < n → -1 ≤ mi 24 i) (m : Nat) (hm : mi 22 1 = nI m) (hm50 : m ≤ 50) : ∀ i, i ≤ m → EV none 1 0 0 mX1_earned 6 [some (pv_r 22), some (pv_i p1), some (pv_i p2), some (pv_i p3), some (pv_i (wg (mi 27) (mi 28) (mi 23) (mi 24) (mi 26) (mi 25) n p1 p2 p3 i)), some (pv_i (nI i))] [] sh mi mr (ok_r sh mr (wg (mi 27) (mi 28) (mi 23) (mi 24) (mi 26) (mi 25) n p1 p2 p3 m) mi) := by
  refine lp_i m (fun i hi ih => ?_)
  refine ev_iload dX1_earned_6 rfl ?_
  refine ev_aload_n dX1_earned_8 rfl ?_
  refine ev_geti dX1_earned_9 fl_X1_15 rfl (hB.1 22 _ rfl) ?_
  refine ev_icmp_ge (tgt := 60) dX1_earned_12 rfl (fun h12 => ?_) (fun h12 => ?_)
  · have hin : i = m := by have := (nl_le hm rfl (by omega) (by omega)).mp h12; omega
    subst hin
    refine ev_iload dX1_earned_60 rfl ?_
    exact ev_ireturn (ty := .int) dX1_earned_62 rfl rfl ⟨rfl, rfl, rfl, rfl⟩
  · have hlt : i < m := by have := (not_congr (nl_le hm rfl (by omega) (by omega))).mp h12; omega
    refine ev_aload_n dX1_earned_15 rfl ?_
    refine ev_getq dX1_earned_16 fl_X1_34 rfl (hB.1 22 _ rfl) (hB.2 22 7 _ rfl) ?_
    refine ev_iload dX1_earned_19 rfl ?_
    refine ev_iald dX1_earned_21 (hB.1 28 _ rfl) (j := i) rfl (by omega) (by decide) ?_
    refine ev_iload_n dX1_earned_22 rfl ?_
    refine ev_iload_n dX1_earned_23 rfl ?_
    refine ev_t3i dX1_earned_24 cn_X1_37 (Nat.le_of_ble_eq_true rfl) (by decide) (t_X5_within _ _ _) ?_
    refine ev_ifb_eq (tgt := 54) dX1_earned_27 rfl (fun h27 => ?_) (fun h27 => ?_)
    · refine ev_iincN dX1_earned_54 rfl (by decide) ?_
      refine ev_goto (tgt := 6) dX1_earned_57 rfl ?_
      have q := ih hlt
      rw [show (wg (mi 27) (mi 28) (mi 23) (mi 24) (mi 26) (mi 25) n p1 p2 p3 (i + 1)) = _ from if_neg h27] at q
      exact q
    · refine ev_iload dX1_earned_30 rfl ?_
      refine ev_aload_n dX1_earned_32 rfl ?_
      refine ev_aload_n dX1_earned_33 rfl ?_
      refine ev_getq dX1_earned_34 fl_X1_31 rfl (hB.1 22 _ rfl) (hB.2 22 6 _ rfl) ?_
      refine ev_iload dX1_earned_37 rfl ?_
      refine ev_iald dX1_earned_39 (hB.1 27 _ rfl) (j := i) rfl (by omega) (by decide) ?_
      refine ev_aload_n dX1_earned_40 rfl ?_
      refine ev_getq dX1_earned_41 fl_X1_34 rfl (hB.1 22 _ rfl) (hB.2 22 7 _ rfl) ?_
      refine ev_iload dX1_earned_44 rfl ?_
      refine ev_iald dX1_earned_46 (hB.1 28 _ rfl) (j := i) rfl (by omega) (by decide) ?_
      refine ev_iload_n dX1_earned_47 rfl ?_
      refine ev_v3i dX1_earned_48 cv_X1_41 (hB.1 22 _ rfl) (Nat.le_of_ble_eq_true rfl) (by decide) (t_X1_penceAt hB _ _ _ n hn hn30 hp) ?_
      refine ev_iadd dX1_earned_51 ?_
      refine ev_istore dX1_earned_52 (by decide) ?_
      refine ev_iincN dX1_earned_54 rfl (by decide) ?_
      refine ev_goto (tgt := 6) dX1_earned_57 rfl ?_
      have q := ih hlt
      rw [show (wg (mi 27) (mi 28) (mi 23) (mi 24) (mi 26) (mi 25) n p1 p2 p3 (i + 1)) = _ from if_pos h27] at q
      exact q
set_option maxRecDepth 100000 in
set_option maxHeartbeats 4000000 in
theorem t_X1_earned {sh : SH} {mi : MI} {mr : MR} (hB : ba_c sh mr) (p1 p2 p3 : Int32) (n : Nat) (hn : mi 22 0 = nI n) (hn30 : n ≤ 30) (hp : ∀ i, i < n → -1 ≤ mi 24 i) (m : Nat) (hm : mi 22 1 = nI m) (hm50 : m ≤ 50) : EV none 1 0 0 mX1_earned 0 (en_l mX1_earned [pv_r 22, pv_i p1, pv_i p2, pv_i p3]) [] sh mi mr (ok_r sh mr (wg (mi 27) (mi 28) (mi 23) (mi 24) (mi 26) (mi 25) n p1 p2 p3 m) mi) := by
  show EV none 1 0 0 mX1_earned 0 [some (pv_r 22), some (pv_i p1), some (pv_i p2), some (pv_i p3), none, none] [] sh mi mr _
  refine ev_iconst (v := 0) dX1_earned_0 rfl ?_
  refine ev_istore dX1_earned_1 (by decide) ?_
  refine ev_iconst (v := 0) dX1_earned_3 rfl ?_
  refine ev_istore dX1_earned_4 (by decide) ?_
  exact lp_X1_earned hB p1 p2 p3 n hn hn30 hp m hm hm50 0 (Nat.zero_le m)
set_option maxRecDepth 100000 in
set_option maxHeartbeats 4000000 in
theorem t_X5_wages {sh : SH} {mi : MI} {mr : MR} (hB : ba_c sh mr) (p1 p2 p3 : Int32) (n : Nat) (hn : mi 22 0 = nI n) (hn30 : n ≤ 30) (hp : ∀ i, i < n → -1 ≤ mi 24 i) (m : Nat) (hm : mi 22 1 = nI m) (hm50 : m ≤ 50) : EV none 2 0 0 mX5_wages 0 (en_l mX5_wages [pv_r 0, pv_i p1, pv_i p2, pv_i p3]) [] sh mi mr (fun v_ sh_ mi_ mr_ => ((¬ (0 ≤ p1 ∧ p1 ≤ 1000)) ∧ (ok_r sh mr (-3) mi) v_ sh_ mi_ mr_) ∨ ((0 ≤ p1 ∧ p1 ≤ 1000) ∧ (¬ (0 ≤ p2 ∧ p2 ≤ 1000)) ∧ (ok_r sh mr (-3) mi) v_ sh_ mi_ mr_) ∨ ((0 ≤ p1 ∧ p1 ≤ 1000) ∧ (0 ≤ p2 ∧ p2 ≤ 1000) ∧ (0 ≤ p3 ∧ p3 ≤ 1000) ∧ (ok_r sh mr (wg (mi 27) (mi 28) (mi 23) (mi 24) (mi 26) (mi 25) n p1 p2 p3 m) mi) v_ sh_ mi_ mr_) ∨ ((0 ≤ p1 ∧ p1 ≤ 1000) ∧ (0 ≤ p2 ∧ p2 ≤ 1000) ∧ (¬ (0 ≤ p3 ∧ p3 ≤ 1000)) ∧ (ok_r sh mr (-3) mi) v_ sh_ mi_ mr_)) := by
  show EV none 2 0 0 mX5_wages 0 [some (pv_r 0), some (pv_i p1), some (pv_i p2), some (pv_i p3)] [] sh mi mr _
  refine ev_iload_n dX5_wages_0 rfl ?_
  refine ev_s1i dX5_wages_1 cs_X5_225 (Nat.le_of_ble_eq_true rfl) (by decide) (t_X5_isDay _) ?_
  refine ev_ifb_eq (tgt := 21) dX5_wages_4 rfl (fun h4 => ?_) (fun h4 => ?_)
  · refine ev_bipush (v := (-3)) dX5_wages_21 rfl ?_
    exact ev_ireturn (ty := .int) dX5_wages_23 rfl rfl (Or.inl ⟨h4, rfl, rfl, rfl, rfl⟩)
  · refine ev_iload_n dX5_wages_7 rfl ?_
    refine ev_s1i dX5_wages_8 cs_X5_225 (Nat.le_of_ble_eq_true rfl) (by decide) (t_X5_isDay _) ?_
    refine ev_ifb_eq (tgt := 21) dX5_wages_11 rfl (fun h11 => ?_) (fun h11 => ?_)
    · refine ev_bipush (v := (-3)) dX5_wages_21 rfl ?_
      exact ev_ireturn (ty := .int) dX5_wages_23 rfl rfl (Or.inr (Or.inl ⟨h4, h11, rfl, rfl, rfl, rfl⟩))
    · refine ev_iload_n dX5_wages_14 rfl ?_
      refine ev_s1i dX5_wages_15 cs_X5_225 (Nat.le_of_ble_eq_true rfl) (by decide) (t_X5_isDay _) ?_
      refine ev_ifb_ne (tgt := 24) dX5_wages_18 rfl (fun h18 => ?_) (fun h18 => ?_)
      · refine ev_aload_n dX5_wages_24 rfl ?_
        refine ev_getq dX5_wages_25 fl_X5_38 rfl (hB.1 0 _ rfl) (hB.2 0 4 _ rfl) ?_
        refine ev_iload_n dX5_wages_28 rfl ?_
        refine ev_iload_n dX5_wages_29 rfl ?_
        refine ev_iload_n dX5_wages_30 rfl ?_
        refine ev_v3i dX5_wages_31 cv_X5_235 (hB.1 22 _ rfl) (Nat.le_of_ble_eq_true rfl) (by decide) (t_X1_earned hB _ _ _ n hn hn30 hp m hm hm50) ?_
        exact ev_ireturn (ty := .int) dX5_wages_34 rfl rfl (Or.inr (Or.inr (Or.inl ⟨h4, h11, h18, rfl, rfl, rfl, rfl⟩)))
      · refine ev_bipush (v := (-3)) dX5_wages_21 rfl ?_
        exact ev_ireturn (ty := .int) dX5_wages_23 rfl rfl (Or.inr (Or.inr (Or.inr ⟨h4, h11, h18, rfl, rfl, rfl, rfl⟩)))
set_option maxRecDepth 100000 in
set_option maxHeartbeats 4000000 in
theorem t_X1_notePass {sh : SH} {mi : MI} {mr : MR} (hB : ba_c sh mr) (p1 p2 : Int32) (m : Nat) (hm : mi 22 1 = nI m) (hm50 : m ≤ 50) : EV none 0 0 0 mX1_notePass 0 (en_l mX1_notePass [pv_r 22, pv_i p1, pv_i p2]) [] sh mi mr (fun v_ sh_ mi_ mr_ => (((mi 22 1) < 50) ∧ (ok_n sh mr (up_2 (up_2 (up_2 mi 27 m p1) 28 m p2) 22 1 (((up_2 (up_2 mi 27 m p1) 28 m p2) 22 1) + 1))) v_ sh_ mi_ mr_) ∨ ((¬ (mi 22 1) < 50) ∧ (ok_n sh mr mi) v_ sh_ mi_ mr_)) := by
  show EV none 0 0 0 mX1_notePass 0 [some (pv_r 22), some (pv_i p1), some (pv_i p2)] [] sh mi mr _
  refine ev_aload_n dX1_notePass_0 rfl ?_
  refine ev_geti dX1_notePass_1 fl_X1_15 rfl (hB.1 22 _ rfl) ?_
  refine ev_bipush (v := 50) dX1_notePass_4 rfl ?_
  refine ev_icmp_lt (tgt := 10) dX1_notePass_6 rfl (fun h6 => ?_) (fun h6 => ?_)
  · refine ev_aload_n dX1_notePass_10 rfl ?_
    refine ev_getq dX1_notePass_11 fl_X1_31 rfl (hB.1 22 _ rfl) (hB.2 22 6 _ rfl) ?_
    refine ev_aload_n dX1_notePass_14 rfl ?_
    refine ev_geti dX1_notePass_15 fl_X1_15 rfl (hB.1 22 _ rfl) ?_
    refine ev_iload_n dX1_notePass_18 rfl ?_
    refine ev_iast dX1_notePass_19 (hB.1 27 _ rfl) (j := m) (by simp [up_2, hm]) ((nl_lt hm (b := 50) rfl (by omega) (by decide)).mp h6) (by decide) ?_
    refine ev_aload_n dX1_notePass_20 rfl ?_
    refine ev_getq dX1_notePass_21 fl_X1_34 rfl (hB.1 22 _ rfl) (hB.2 22 7 _ rfl) ?_
    refine ev_aload_n dX1_notePass_24 rfl ?_
    refine ev_geti dX1_notePass_25 fl_X1_15 rfl (hB.1 22 _ rfl) ?_
    refine ev_iload_n dX1_notePass_28 rfl ?_
    refine ev_iast dX1_notePass_29 (hB.1 28 _ rfl) (j := m) (by simp [up_2, hm]) ((nl_lt hm (b := 50) rfl (by omega) (by decide)).mp h6) (by decide) ?_
    refine ev_aload_n dX1_notePass_30 rfl ?_
    refine ev_dup dX1_notePass_31 ?_
    refine ev_geti dX1_notePass_32 fl_X1_15 rfl (hB.1 22 _ rfl) ?_
    refine ev_iconst (v := 1) dX1_notePass_35 rfl ?_
    refine ev_iadd dX1_notePass_36 ?_
    refine ev_puti dX1_notePass_37 fl_X1_15 rfl rfl (hB.1 22 _ rfl) ?_
    exact ev_return dX1_notePass_40 rfl (Or.inl ⟨h6, rfl, rfl, rfl, rfl⟩)
  · exact ev_return dX1_notePass_9 rfl (Or.inr ⟨h6, rfl, rfl, rfl, rfl⟩)
def ro_b (q : Option Nat) : Int32 := match q with
  | none => -1
  | some k => nI k
set_option maxRecDepth 100000 in
set_option maxHeartbeats 4000000 in
theorem lp_X6_rateOf {sh : SH} {mi : MI} {mr : MR} (hB : ba_c sh mr) (p1 p2 p3 : Int32) (n : Nat) (hn : mi 29 42 = nI n) (hn30 : n ≤ 30) (hp : ∀ i, i < n → -1 ≤ mi 64 i) : ∀ i, i ≤ n → EV none 0 0 0 mX6_rateOf 6 [some (pv_r 29), some (pv_i p1), some (pv_i p2), some (pv_i p3), some (pv_i (ro_b (ro (mi 63) (mi 64) (mi 66) p1 p2 p3 i))), some (pv_i (nI i)), none] [] sh mi mr (ok_r sh mr (ro_p (mi 65) (ro (mi 63) (mi 64) (mi 66) p1 p2 p3 n)) mi) := by
  refine lp_i n (fun i hi ih => ?_)
  cases hr : ro (mi 63) (mi 64) (mi 66) p1 p2 p3 i with
  | none =>
    show EV none 0 0 0 mX6_rateOf 6 [some (pv_r 29), some (pv_i p1), some (pv_i p2), some (pv_i p3), some (pv_i (-1)), some (pv_i (nI i)), none] [] sh mi mr _
    refine ev_iload dX6_rateOf_6 rfl ?_
    refine ev_aload_n dX6_rateOf_8 rfl ?_
    refine ev_geti dX6_rateOf_9 fl_X6_212 rfl (hB.1 29 _ rfl) ?_
    refine ev_icmp_ge (tgt := 98) dX6_rateOf_12 rfl (fun h12 => ?_) (fun h12 => ?_)
    · have hin : i = n := by have := (nl_le hn rfl (by omega) (by omega)).mp h12; omega
      subst hin
      refine ev_iload dX6_rateOf_98 rfl ?_
      refine ev_iconst (v := (-1)) dX6_rateOf_100 rfl ?_
      refine ev_icmp_ne_f (tgt := 108) dX6_rateOf_101 rfl rfl ?_
      refine ev_iconst (v := 0) dX6_rateOf_104 rfl ?_
      refine ev_goto (tgt := 115) dX6_rateOf_105 rfl ?_
      exact ev_ireturn (ty := .int) dX6_rateOf_115 rfl rfl ⟨by rw [hr]; rfl, rfl, rfl, rfl⟩
    · have hlt : i < n := by have := (not_congr (nl_le hn rfl (by omega) (by omega))).mp h12; omega
      refine ev_aload_n dX6_rateOf_15 rfl ?_
      refine ev_getq dX6_rateOf_16 fl_X6_114 rfl (hB.1 29 _ rfl) (hB.2 29 43 _ rfl) ?_
      refine ev_iload dX6_rateOf_19 rfl ?_
      refine ev_iald dX6_rateOf_21 (hB.1 63 _ rfl) (j := i) rfl (by omega) (by decide) ?_
      refine ev_iload_n dX6_rateOf_22 rfl ?_
      refine ev_icmp_ne (tgt := 52) dX6_rateOf_23 rfl (fun h23 => ?_) (fun h23 => ?_)
      · refine ev_iconst (v := 0) dX6_rateOf_52 rfl ?_
        refine ev_istore dX6_rateOf_53 (by decide) ?_
        refine ev_iload dX6_rateOf_55 rfl ?_
        refine ev_if_eq_t (tgt := 88) dX6_rateOf_57 rfl (by decide) ?_
        refine ev_iload dX6_rateOf_88 rfl ?_
        refine ev_istore dX6_rateOf_90 (by decide) ?_
        refine ev_iincN dX6_rateOf_92 rfl (by decide) ?_
        refine ev_goto (tgt := 6) dX6_rateOf_95 rfl ?_
        have q := ih hlt
        rw [ro_keep (fun q => h23 q.1), hr] at q
        exact ev_fg 6 q
      · refine ev_aload_n dX6_rateOf_26 rfl ?_
        refine ev_getq dX6_rateOf_27 fl_X6_123 rfl (hB.1 29 _ rfl) (hB.2 29 46 _ rfl) ?_
        refine ev_iload dX6_rateOf_30 rfl ?_
        refine ev_iald dX6_rateOf_32 (hB.1 66 _ rfl) (j := i) rfl (by omega) (by decide) ?_
        refine ev_iload_n dX6_rateOf_33 rfl ?_
        refine ev_icmp_gt (tgt := 52) dX6_rateOf_34 rfl (fun h34 => ?_) (fun h34 => ?_)
        · refine ev_iconst (v := 0) dX6_rateOf_52 rfl ?_
          refine ev_istore dX6_rateOf_53 (by decide) ?_
          refine ev_iload dX6_rateOf_55 rfl ?_
          refine ev_if_eq_t (tgt := 88) dX6_rateOf_57 rfl (by decide) ?_
          refine ev_iload dX6_rateOf_88 rfl ?_
          refine ev_istore dX6_rateOf_90 (by decide) ?_
          refine ev_iincN dX6_rateOf_92 rfl (by decide) ?_
          refine ev_goto (tgt := 6) dX6_rateOf_95 rfl ?_
          have q := ih hlt
          rw [ro_keep (fun q => absurd q.2.1 (Int32.not_le.mpr h34)), hr] at q
          exact ev_fg 6 q
        · refine ev_aload_n dX6_rateOf_37 rfl ?_
          refine ev_getq dX6_rateOf_38 fl_X6_117 rfl (hB.1 29 _ rfl) (hB.2 29 44 _ rfl) ?_
          refine ev_iload dX6_rateOf_41 rfl ?_
          refine ev_iald dX6_rateOf_43 (hB.1 64 _ rfl) (j := i) rfl (by omega) (by decide) ?_
          refine ev_iload_n dX6_rateOf_44 rfl ?_
          refine ev_icmp_gt (tgt := 52) dX6_rateOf_45 rfl (fun h45 => ?_) (fun h45 => ?_)
          · refine ev_iconst (v := 0) dX6_rateOf_52 rfl ?_
            refine ev_istore dX6_rateOf_53 (by decide) ?_
            refine ev_iload dX6_rateOf_55 rfl ?_
            refine ev_if_eq_t (tgt := 88) dX6_rateOf_57 rfl (by decide) ?_
            refine ev_iload dX6_rateOf_88 rfl ?_
            refine ev_istore dX6_rateOf_90 (by decide) ?_
            refine ev_iincN dX6_rateOf_92 rfl (by decide) ?_
            refine ev_goto (tgt := 6) dX6_rateOf_95 rfl ?_
            have q := ih hlt
            rw [ro_keep (fun q => absurd q.2.2 (Int32.not_le.mpr h45)), hr] at q
            exact ev_fg 6 q
          · refine ev_iconst (v := 1) dX6_rateOf_48 rfl ?_
            refine ev_goto (tgt := 53) dX6_rateOf_49 rfl ?_
            refine ev_istore dX6_rateOf_53 (by decide) ?_
            refine ev_iload dX6_rateOf_55 rfl ?_
            refine ev_if_eq_f (tgt := 88) dX6_rateOf_57 rfl (by decide) ?_
            refine ev_iload dX6_rateOf_60 rfl ?_
            refine ev_iconst (v := (-1)) dX6_rateOf_62 rfl ?_
            refine ev_icmp_eq_t (tgt := 83) dX6_rateOf_63 rfl rfl ?_
            refine ev_iload dX6_rateOf_83 rfl ?_
            refine ev_goto (tgt := 90) dX6_rateOf_85 rfl ?_
            refine ev_istore dX6_rateOf_90 (by decide) ?_
            refine ev_iincN dX6_rateOf_92 rfl (by decide) ?_
            refine ev_goto (tgt := 6) dX6_rateOf_95 rfl ?_
            have q := ih hlt
            rw [ro_take h23 (Int32.not_lt.mp h34) (Int32.not_lt.mp h45) (by rw [hr]; exact Int32.not_lt.mpr (hp i hlt))] at q
            exact ev_fg 6 q
  | some k =>
    have hki := ro_lt hr
    show EV none 0 0 0 mX6_rateOf 6 [some (pv_r 29), some (pv_i p1), some (pv_i p2), some (pv_i p3), some (pv_i (nI k)), some (pv_i (nI i)), none] [] sh mi mr _
    refine ev_iload dX6_rateOf_6 rfl ?_
    refine ev_aload_n dX6_rateOf_8 rfl ?_
    refine ev_geti dX6_rateOf_9 fl_X6_212 rfl (hB.1 29 _ rfl) ?_
    refine ev_icmp_ge (tgt := 98) dX6_rateOf_12 rfl (fun h12 => ?_) (fun h12 => ?_)
    · have hin : i = n := by have := (nl_le hn rfl (by omega) (by omega)).mp h12; omega
      subst hin
      refine ev_iload dX6_rateOf_98 rfl ?_
      refine ev_iconst (v := (-1)) dX6_rateOf_100 rfl ?_
      refine ev_icmp_ne_t (tgt := 108) dX6_rateOf_101 rfl (nI_m1 (by omega)) ?_
      refine ev_aload_n dX6_rateOf_108 rfl ?_
      refine ev_getq dX6_rateOf_109 fl_X6_120 rfl (hB.1 29 _ rfl) (hB.2 29 45 _ rfl) ?_
      refine ev_iload dX6_rateOf_112 rfl ?_
      refine ev_iald dX6_rateOf_114 (hB.1 65 _ rfl) (j := k) rfl (by omega) (by decide) ?_
      exact ev_ireturn (ty := .int) dX6_rateOf_115 rfl rfl ⟨by rw [hr]; rfl, rfl, rfl, rfl⟩
    · have hlt : i < n := by have := (not_congr (nl_le hn rfl (by omega) (by omega))).mp h12; omega
      refine ev_aload_n dX6_rateOf_15 rfl ?_
      refine ev_getq dX6_rateOf_16 fl_X6_114 rfl (hB.1 29 _ rfl) (hB.2 29 43 _ rfl) ?_
      refine ev_iload dX6_rateOf_19 rfl ?_
      refine ev_iald dX6_rateOf_21 (hB.1 63 _ rfl) (j := i) rfl (by omega) (by decide) ?_
      refine ev_iload_n dX6_rateOf_22 rfl ?_
      refine ev_icmp_ne (tgt := 52) dX6_rateOf_23 rfl (fun h23 => ?_) (fun h23 => ?_)
      · refine ev_iconst (v := 0) dX6_rateOf_52 rfl ?_
        refine ev_istore dX6_rateOf_53 (by decide) ?_
        refine ev_iload dX6_rateOf_55 rfl ?_
        refine ev_if_eq_t (tgt := 88) dX6_rateOf_57 rfl (by decide) ?_
        refine ev_iload dX6_rateOf_88 rfl ?_
        refine ev_istore dX6_rateOf_90 (by decide) ?_
        refine ev_iincN dX6_rateOf_92 rfl (by decide) ?_
        refine ev_goto (tgt := 6) dX6_rateOf_95 rfl ?_
        have q := ih hlt
        rw [ro_keep (fun q => h23 q.1), hr] at q
        exact ev_fg 6 q
      · refine ev_aload_n dX6_rateOf_26 rfl ?_
        refine ev_getq dX6_rateOf_27 fl_X6_123 rfl (hB.1 29 _ rfl) (hB.2 29 46 _ rfl) ?_
        refine ev_iload dX6_rateOf_30 rfl ?_
        refine ev_iald dX6_rateOf_32 (hB.1 66 _ rfl) (j := i) rfl (by omega) (by decide) ?_
        refine ev_iload_n dX6_rateOf_33 rfl ?_
        refine ev_icmp_gt (tgt := 52) dX6_rateOf_34 rfl (fun h34 => ?_) (fun h34 => ?_)
        · refine ev_iconst (v := 0) dX6_rateOf_52 rfl ?_
          refine ev_istore dX6_rateOf_53 (by decide) ?_
          refine ev_iload dX6_rateOf_55 rfl ?_
          refine ev_if_eq_t (tgt := 88) dX6_rateOf_57 rfl (by decide) ?_
          refine ev_iload dX6_rateOf_88 rfl ?_
          refine ev_istore dX6_rateOf_90 (by decide) ?_
          refine ev_iincN dX6_rateOf_92 rfl (by decide) ?_
          refine ev_goto (tgt := 6) dX6_rateOf_95 rfl ?_
          have q := ih hlt
          rw [ro_keep (fun q => absurd q.2.1 (Int32.not_le.mpr h34)), hr] at q
          exact ev_fg 6 q
        · refine ev_aload_n dX6_rateOf_37 rfl ?_
          refine ev_getq dX6_rateOf_38 fl_X6_117 rfl (hB.1 29 _ rfl) (hB.2 29 44 _ rfl) ?_
          refine ev_iload dX6_rateOf_41 rfl ?_
          refine ev_iald dX6_rateOf_43 (hB.1 64 _ rfl) (j := i) rfl (by omega) (by decide) ?_
          refine ev_iload_n dX6_rateOf_44 rfl ?_
          refine ev_icmp_gt (tgt := 52) dX6_rateOf_45 rfl (fun h45 => ?_) (fun h45 => ?_)
          · refine ev_iconst (v := 0) dX6_rateOf_52 rfl ?_
            refine ev_istore dX6_rateOf_53 (by decide) ?_
            refine ev_iload dX6_rateOf_55 rfl ?_
            refine ev_if_eq_t (tgt := 88) dX6_rateOf_57 rfl (by decide) ?_
            refine ev_iload dX6_rateOf_88 rfl ?_
            refine ev_istore dX6_rateOf_90 (by decide) ?_
            refine ev_iincN dX6_rateOf_92 rfl (by decide) ?_
            refine ev_goto (tgt := 6) dX6_rateOf_95 rfl ?_
            have q := ih hlt
            rw [ro_keep (fun q => absurd q.2.2 (Int32.not_le.mpr h45)), hr] at q
            exact ev_fg 6 q
          · refine ev_iconst (v := 1) dX6_rateOf_48 rfl ?_
            refine ev_goto (tgt := 53) dX6_rateOf_49 rfl ?_
            refine ev_istore dX6_rateOf_53 (by decide) ?_
            refine ev_iload dX6_rateOf_55 rfl ?_
            refine ev_if_eq_f (tgt := 88) dX6_rateOf_57 rfl (by decide) ?_
            refine ev_iload dX6_rateOf_60 rfl ?_
            refine ev_iconst (v := (-1)) dX6_rateOf_62 rfl ?_
            refine ev_icmp_eq_f (tgt := 83) dX6_rateOf_63 rfl (nI_m1 (by omega)) ?_
            refine ev_aload_n dX6_rateOf_66 rfl ?_
            refine ev_getq dX6_rateOf_67 fl_X6_117 rfl (hB.1 29 _ rfl) (hB.2 29 44 _ rfl) ?_
            refine ev_iload dX6_rateOf_70 rfl ?_
            refine ev_iald dX6_rateOf_72 (hB.1 64 _ rfl) (j := i) rfl (by omega) (by decide) ?_
            refine ev_aload_n dX6_rateOf_73 rfl ?_
            refine ev_getq dX6_rateOf_74 fl_X6_117 rfl (hB.1 29 _ rfl) (hB.2 29 44 _ rfl) ?_
            refine ev_iload dX6_rateOf_77 rfl ?_
            refine ev_iald dX6_rateOf_79 (hB.1 64 _ rfl) (j := k) rfl (by omega) (by decide) ?_
            refine ev_icmp_lt (tgt := 88) dX6_rateOf_80 rfl (fun h80 => ?_) (fun h80 => ?_)
            · refine ev_iload dX6_rateOf_88 rfl ?_
              refine ev_istore dX6_rateOf_90 (by decide) ?_
              refine ev_iincN dX6_rateOf_92 rfl (by decide) ?_
              refine ev_goto (tgt := 6) dX6_rateOf_95 rfl ?_
              have q := ih hlt
              rw [ro_less (hp i hlt) (by rw [hr]; exact h80), hr] at q
              exact ev_fg 6 q
            · refine ev_iload dX6_rateOf_83 rfl ?_
              refine ev_goto (tgt := 90) dX6_rateOf_85 rfl ?_
              refine ev_istore dX6_rateOf_90 (by decide) ?_
              refine ev_iincN dX6_rateOf_92 rfl (by decide) ?_
              refine ev_goto (tgt := 6) dX6_rateOf_95 rfl ?_
              have q := ih hlt
              rw [ro_take h23 (Int32.not_lt.mp h34) (Int32.not_lt.mp h45) (by rw [hr]; exact h80)] at q
              exact ev_fg 6 q
set_option maxRecDepth 100000 in
set_option maxHeartbeats 4000000 in
theorem t_X6_rateOf {sh : SH} {mi : MI} {mr : MR} (hB : ba_c sh mr) (p1 p2 p3 : Int32) (n : Nat) (hn : mi 29 42 = nI n) (hn30 : n ≤ 30) (hp : ∀ i, i < n → -1 ≤ mi 64 i) : EV none 0 0 0 mX6_rateOf 0 (en_l mX6_rateOf [pv_r 29, pv_i p1, pv_i p2, pv_i p3]) [] sh mi mr (ok_r sh mr (ro_p (mi 65) (ro (mi 63) (mi 64) (mi 66) p1 p2 p3 n)) mi) := by
  show EV none 0 0 0 mX6_rateOf 0 [some (pv_r 29), some (pv_i p1), some (pv_i p2), some (pv_i p3), none, none, none] [] sh mi mr _
  refine ev_iconst (v := (-1)) dX6_rateOf_0 rfl ?_
  refine ev_istore dX6_rateOf_1 (by decide) ?_
  refine ev_iconst (v := 0) dX6_rateOf_3 rfl ?_
  refine ev_istore dX6_rateOf_4 (by decide) ?_
  exact lp_X6_rateOf hB p1 p2 p3 n hn hn30 hp 0 (Nat.zero_le n)
set_option maxRecDepth 100000 in
set_option maxHeartbeats 4000000 in
theorem t_X6_rateAt {sh : SH} {mi : MI} {mr : MR} (hB : ba_c sh mr) (p1 p2 p3 : Int32) (n : Nat) (hn : mi 29 42 = nI n) (hn30 : n ≤ 30) (hp : ∀ i, i < n → -1 ≤ mi 64 i) : EV none 2 0 0 mX6_rateAt 0 (en_l mX6_rateAt [pv_r 29, pv_i p1, pv_i p2, pv_i p3]) [] sh mi mr (fun v_ sh_ mi_ mr_ => ((0 ≤ p1 ∧ p1 ≤ 4) ∧ (¬ (0 ≤ p2 ∧ p2 ≤ 1000)) ∧ (ok_r sh mr (-3) mi) v_ sh_ mi_ mr_) ∨ ((0 ≤ p1 ∧ p1 ≤ 4) ∧ (0 ≤ p2 ∧ p2 ≤ 1000) ∧ (¬ (0 ≤ p3 ∧ p3 ≤ 1000)) ∧ (ok_r sh mr (-3) mi) v_ sh_ mi_ mr_) ∨ ((0 ≤ p1 ∧ p1 ≤ 4) ∧ (0 ≤ p2 ∧ p2 ≤ 1000) ∧ (0 ≤ p3 ∧ p3 ≤ 1000) ∧ (ok_r sh mr (ro_p (mi 65) (ro (mi 63) (mi 64) (mi 66) p1 p2 p3 n)) mi) v_ sh_ mi_ mr_) ∨ ((¬ (0 ≤ p1 ∧ p1 ≤ 4)) ∧ (ok_r sh mr (-2) mi) v_ sh_ mi_ mr_)) := by
  show EV none 2 0 0 mX6_rateAt 0 [some (pv_r 29), some (pv_i p1), some (pv_i p2), some (pv_i p3)] [] sh mi mr _
  refine ev_iload_n dX6_rateAt_0 rfl ?_
  refine ev_s1i dX6_rateAt_1 cs_X6_151 (Nat.le_of_ble_eq_true rfl) (by decide) (t_X6_isBench _) ?_
  refine ev_ifb_ne (tgt := 10) dX6_rateAt_4 rfl (fun h4 => ?_) (fun h4 => ?_)
  · refine ev_iload_n dX6_rateAt_10 rfl ?_
    refine ev_s1i dX6_rateAt_11 cs_X6_209 (Nat.le_of_ble_eq_true rfl) (by decide) (t_X6_isDay _) ?_
    refine ev_ifb_eq (tgt := 34) dX6_rateAt_14 rfl (fun h14 => ?_) (fun h14 => ?_)
    · refine ev_bipush (v := (-3)) dX6_rateAt_34 rfl ?_
      exact ev_ireturn (ty := .int) dX6_rateAt_36 rfl rfl (Or.inl ⟨h4, h14, rfl, rfl, rfl, rfl⟩)
    · refine ev_iload_n dX6_rateAt_17 rfl ?_
      refine ev_s1i dX6_rateAt_18 cs_X6_209 (Nat.le_of_ble_eq_true rfl) (by decide) (t_X6_isDay _) ?_
      refine ev_ifb_eq (tgt := 34) dX6_rateAt_21 rfl (fun h21 => ?_) (fun h21 => ?_)
      · refine ev_bipush (v := (-3)) dX6_rateAt_34 rfl ?_
        exact ev_ireturn (ty := .int) dX6_rateAt_36 rfl rfl (Or.inr (Or.inl ⟨h4, h14, h21, rfl, rfl, rfl, rfl⟩))
      · refine ev_aload_n dX6_rateAt_24 rfl ?_
        refine ev_iload_n dX6_rateAt_25 rfl ?_
        refine ev_iload_n dX6_rateAt_26 rfl ?_
        refine ev_iload_n dX6_rateAt_27 rfl ?_
        refine ev_v3i dX6_rateAt_28 cv_X6_215 (hB.1 29 _ rfl) (Nat.le_of_ble_eq_true rfl) (by decide) (t_X6_rateOf hB _ _ _ n hn hn30 hp) ?_
        refine ev_goto (tgt := 36) dX6_rateAt_31 rfl ?_
        exact ev_ireturn (ty := .int) dX6_rateAt_36 rfl rfl (Or.inr (Or.inr (Or.inl ⟨h4, h14, h21, rfl, rfl, rfl, rfl⟩)))
  · refine ev_bipush (v := (-2)) dX6_rateAt_7 rfl ?_
    exact ev_ireturn (ty := .int) dX6_rateAt_9 rfl rfl (Or.inr (Or.inr (Or.inr ⟨h4, rfl, rfl, rfl, rfl⟩)))
set_option maxRecDepth 100000 in
set_option maxHeartbeats 4000000 in
theorem lp_X6_wages {sh : SH} {mi : MI} {mr : MR} (hB : ba_c sh mr) (p1 p2 p3 : Int32) (n : Nat) (hn : mi 29 42 = nI n) (hn30 : n ≤ 30) (hp : ∀ i, i < n → -1 ≤ mi 64 i) (m : Nat) (hm : mi 29 13 = nI m) (hm50 : m ≤ 50) : ∀ i, i ≤ m → EV none 2 0 0 mX6_wages 30 [some (pv_r 29), some (pv_i p1), some (pv_i p2), some (pv_i p3), some (pv_i (wg (mi 41) (mi 42) (mi 63) (mi 64) (mi 66) (mi 65) n p1 p2 p3 i)), some (pv_i (nI i))] [] sh mi mr (ok_r sh mr (wg (mi 41) (mi 42) (mi 63) (mi 64) (mi 66) (mi 65) n p1 p2 p3 m) mi) := by
  refine lp_i m (fun i hi ih => ?_)
  refine ev_iload dX6_wages_30 rfl ?_
  refine ev_aload_n dX6_wages_32 rfl ?_
  refine ev_geti dX6_wages_33 fl_X6_145 rfl (hB.1 29 _ rfl) ?_
  refine ev_icmp_ge (tgt := 88) dX6_wages_36 rfl (fun h36 => ?_) (fun h36 => ?_)
  · have hin : i = m := by have := (nl_le hm rfl (by omega) (by omega)).mp h36; omega
    subst hin
    refine ev_iload dX6_wages_88 rfl ?_
    exact ev_ireturn (ty := .int) dX6_wages_90 rfl rfl ⟨rfl, rfl, rfl, rfl⟩
  · have hlt : i < m := by have := (not_congr (nl_le hm rfl (by omega) (by omega))).mp h36; omega
    refine ev_iload dX6_wages_39 rfl ?_
    refine ev_aload_n dX6_wages_41 rfl ?_
    refine ev_getq dX6_wages_42 fl_X6_47 rfl (hB.1 29 _ rfl) (hB.2 29 15 _ rfl) ?_
    refine ev_iload dX6_wages_45 rfl ?_
    refine ev_iald dX6_wages_47 (hB.1 42 _ rfl) (j := i) rfl (by omega) (by decide) ?_
    refine ev_iload_n dX6_wages_48 rfl ?_
    refine ev_iload_n dX6_wages_49 rfl ?_
    refine ev_s3i dX6_wages_50 cs_X6_129 (Nat.le_of_ble_eq_true rfl) (by decide) (t_X6_in _ _ _) ?_
    refine ev_ifb_eq (tgt := 78) dX6_wages_53 rfl (fun h53 => ?_) (fun h53 => ?_)
    · refine ev_iconst (v := 0) dX6_wages_78 rfl ?_
      refine ev_iadd dX6_wages_79 ?_
      refine ev_istore dX6_wages_80 (by decide) ?_
      refine ev_iincN dX6_wages_82 rfl (by decide) ?_
      refine ev_goto (tgt := 30) dX6_wages_85 rfl ?_
      have q := ih hlt
      rw [show (wg (mi 41) (mi 42) (mi 63) (mi 64) (mi 66) (mi 65) n p1 p2 p3 (i + 1)) = _ from if_neg h53] at q
      rw [← Int32.add_zero (wg (mi 41) (mi 42) (mi 63) (mi 64) (mi 66) (mi 65) n p1 p2 p3 i)] at q
      exact q
    · refine ev_aload_n dX6_wages_56 rfl ?_
      refine ev_aload_n dX6_wages_57 rfl ?_
      refine ev_getq dX6_wages_58 fl_X6_44 rfl (hB.1 29 _ rfl) (hB.2 29 14 _ rfl) ?_
      refine ev_iload dX6_wages_61 rfl ?_
      refine ev_iald dX6_wages_63 (hB.1 41 _ rfl) (j := i) rfl (by omega) (by decide) ?_
      refine ev_aload_n dX6_wages_64 rfl ?_
      refine ev_getq dX6_wages_65 fl_X6_47 rfl (hB.1 29 _ rfl) (hB.2 29 15 _ rfl) ?_
      refine ev_iload dX6_wages_68 rfl ?_
      refine ev_iald dX6_wages_70 (hB.1 42 _ rfl) (j := i) rfl (by omega) (by decide) ?_
      refine ev_iload_n dX6_wages_71 rfl ?_
      refine ev_v3i dX6_wages_72 cv_X6_215 (hB.1 29 _ rfl) (Nat.le_of_ble_eq_true rfl) (by decide) (t_X6_rateOf hB _ _ _ n hn hn30 hp) ?_
      refine ev_goto (tgt := 79) dX6_wages_75 rfl ?_
      refine ev_iadd dX6_wages_79 ?_
      refine ev_istore dX6_wages_80 (by decide) ?_
      refine ev_iincN dX6_wages_82 rfl (by decide) ?_
      refine ev_goto (tgt := 30) dX6_wages_85 rfl ?_
      have q := ih hlt
      rw [show (wg (mi 41) (mi 42) (mi 63) (mi 64) (mi 66) (mi 65) n p1 p2 p3 (i + 1)) = _ from if_pos h53] at q
      exact q
set_option maxRecDepth 100000 in
set_option maxHeartbeats 4000000 in
theorem t_X6_wages {sh : SH} {mi : MI} {mr : MR} (hB : ba_c sh mr) (p1 p2 p3 : Int32) (n : Nat) (hn : mi 29 42 = nI n) (hn30 : n ≤ 30) (hp : ∀ i, i < n → -1 ≤ mi 64 i) (m : Nat) (hm : mi 29 13 = nI m) (hm50 : m ≤ 50) : EV none 2 0 0 mX6_wages 0 (en_l mX6_wages [pv_r 29, pv_i p1, pv_i p2, pv_i p3]) [] sh mi mr (fun v_ sh_ mi_ mr_ => ((¬ (0 ≤ p1 ∧ p1 ≤ 1000)) ∧ (ok_r sh mr (-3) mi) v_ sh_ mi_ mr_) ∨ ((0 ≤ p1 ∧ p1 ≤ 1000) ∧ (¬ (0 ≤ p2 ∧ p2 ≤ 1000)) ∧ (ok_r sh mr (-3) mi) v_ sh_ mi_ mr_) ∨ ((0 ≤ p1 ∧ p1 ≤ 1000) ∧ (0 ≤ p2 ∧ p2 ≤ 1000) ∧ (0 ≤ p3 ∧ p3 ≤ 1000) ∧ (ok_r sh mr (wg (mi 41) (mi 42) (mi 63) (mi 64) (mi 66) (mi 65) n p1 p2 p3 m) mi) v_ sh_ mi_ mr_) ∨ ((0 ≤ p1 ∧ p1 ≤ 1000) ∧ (0 ≤ p2 ∧ p2 ≤ 1000) ∧ (¬ (0 ≤ p3 ∧ p3 ≤ 1000)) ∧ (ok_r sh mr (-3) mi) v_ sh_ mi_ mr_)) := by
  show EV none 2 0 0 mX6_wages 0 [some (pv_r 29), some (pv_i p1), some (pv_i p2), some (pv_i p3), none, none] [] sh mi mr _
  refine ev_iload_n dX6_wages_0 rfl ?_
  refine ev_s1i dX6_wages_1 cs_X6_209 (Nat.le_of_ble_eq_true rfl) (by decide) (t_X6_isDay _) ?_
  refine ev_ifb_eq (tgt := 21) dX6_wages_4 rfl (fun h4 => ?_) (fun h4 => ?_)
  · refine ev_bipush (v := (-3)) dX6_wages_21 rfl ?_
    exact ev_ireturn (ty := .int) dX6_wages_23 rfl rfl (Or.inl ⟨h4, rfl, rfl, rfl, rfl⟩)
  · refine ev_iload_n dX6_wages_7 rfl ?_
    refine ev_s1i dX6_wages_8 cs_X6_209 (Nat.le_of_ble_eq_true rfl) (by decide) (t_X6_isDay _) ?_
    refine ev_ifb_eq (tgt := 21) dX6_wages_11 rfl (fun h11 => ?_) (fun h11 => ?_)
    · refine ev_bipush (v := (-3)) dX6_wages_21 rfl ?_
      exact ev_ireturn (ty := .int) dX6_wages_23 rfl rfl (Or.inr (Or.inl ⟨h4, h11, rfl, rfl, rfl, rfl⟩))
    · refine ev_iload_n dX6_wages_14 rfl ?_
      refine ev_s1i dX6_wages_15 cs_X6_209 (Nat.le_of_ble_eq_true rfl) (by decide) (t_X6_isDay _) ?_
      refine ev_ifb_ne (tgt := 24) dX6_wages_18 rfl (fun h18 => ?_) (fun h18 => ?_)
      · refine ev_iconst (v := 0) dX6_wages_24 rfl ?_
        refine ev_istore dX6_wages_25 (by decide) ?_
        refine ev_iconst (v := 0) dX6_wages_27 rfl ?_
        refine ev_istore dX6_wages_28 (by decide) ?_
        exact ev_post (fun v_ s_ m_ r_ h_ => (Or.inr (Or.inr (Or.inl ⟨h4, h11, h18, h_⟩)))) (lp_X6_wages hB p1 p2 p3 n hn hn30 hp m hm hm50 0 (Nat.zero_le m))
      · refine ev_bipush (v := (-3)) dX6_wages_21 rfl ?_
        exact ev_ireturn (ty := .int) dX6_wages_23 rfl rfl (Or.inr (Or.inr (Or.inr ⟨h4, h11, h18, rfl, rfl, rfl, rfl⟩)))
end
section
set_option maxRecDepth 100000 in
set_option maxHeartbeats 4000000 in
theorem t_J6_bitCount {sh : SH} {mi : MI} {mr : MR} (x : Int32) : EV none 0 0 0 mJ6_bitCount_0f7a4 0 (en_l mJ6_bitCount_0f7a4 [pv_i x]) [] sh mi mr (ok_r sh mr (bc x) mi) := by
  show EV none 0 0 0 mJ6_bitCount_0f7a4 0 [some (pv_i x)] [] sh mi mr _
  refine ev_iload_n dJ6_bitCount_0f7a4_0 rfl ?_
  refine ev_iload_n dJ6_bitCount_0f7a4_1 rfl ?_
  refine ev_iconst (v := 1) dJ6_bitCount_0f7a4_2 rfl ?_
  refine ev_iushr dJ6_bitCount_0f7a4_3 ?_
  refine ev_ldcw dJ6_bitCount_0f7a4_4 kc_J6_265 ?_
  refine ev_iand dJ6_bitCount_0f7a4_7 ?_
  refine ev_isub dJ6_bitCount_0f7a4_8 ?_
  refine ev_istore_n dJ6_bitCount_0f7a4_9 (by decide) ?_
  refine ev_iload_n dJ6_bitCount_0f7a4_10 rfl ?_
  refine ev_ldcw dJ6_bitCount_0f7a4_11 kc_J6_266 ?_
  refine ev_iand dJ6_bitCount_0f7a4_14 ?_
  refine ev_iload_n dJ6_bitCount_0f7a4_15 rfl ?_
  refine ev_iconst (v := 2) dJ6_bitCount_0f7a4_16 rfl ?_
  refine ev_iushr dJ6_bitCount_0f7a4_17 ?_
  refine ev_ldcw dJ6_bitCount_0f7a4_18 kc_J6_266 ?_
  refine ev_iand dJ6_bitCount_0f7a4_21 ?_
  refine ev_iadd dJ6_bitCount_0f7a4_22 ?_
  refine ev_istore_n dJ6_bitCount_0f7a4_23 (by decide) ?_
  refine ev_iload_n dJ6_bitCount_0f7a4_24 rfl ?_
  refine ev_iload_n dJ6_bitCount_0f7a4_25 rfl ?_
  refine ev_iconst (v := 4) dJ6_bitCount_0f7a4_26 rfl ?_
  refine ev_iushr dJ6_bitCount_0f7a4_27 ?_
  refine ev_iadd dJ6_bitCount_0f7a4_28 ?_
  refine ev_ldcw dJ6_bitCount_0f7a4_29 kc_J6_267 ?_
  refine ev_iand dJ6_bitCount_0f7a4_32 ?_
  refine ev_istore_n dJ6_bitCount_0f7a4_33 (by decide) ?_
  refine ev_iload_n dJ6_bitCount_0f7a4_34 rfl ?_
  refine ev_iload_n dJ6_bitCount_0f7a4_35 rfl ?_
  refine ev_bipush (v := 8) dJ6_bitCount_0f7a4_36 rfl ?_
  refine ev_iushr dJ6_bitCount_0f7a4_38 ?_
  refine ev_iadd dJ6_bitCount_0f7a4_39 ?_
  refine ev_istore_n dJ6_bitCount_0f7a4_40 (by decide) ?_
  refine ev_iload_n dJ6_bitCount_0f7a4_41 rfl ?_
  refine ev_iload_n dJ6_bitCount_0f7a4_42 rfl ?_
  refine ev_bipush (v := 16) dJ6_bitCount_0f7a4_43 rfl ?_
  refine ev_iushr dJ6_bitCount_0f7a4_45 ?_
  refine ev_iadd dJ6_bitCount_0f7a4_46 ?_
  refine ev_istore_n dJ6_bitCount_0f7a4_47 (by decide) ?_
  refine ev_iload_n dJ6_bitCount_0f7a4_48 rfl ?_
  refine ev_bipush (v := 63) dJ6_bitCount_0f7a4_49 rfl ?_
  refine ev_iand dJ6_bitCount_0f7a4_51 ?_
  exact ev_ireturn (ty := .int) dJ6_bitCount_0f7a4_52 rfl rfl ⟨rfl, rfl, rfl, rfl⟩
set_option maxRecDepth 100000 in
set_option maxHeartbeats 4000000 in
theorem t_X0_addGathering {sh : SH} {mi : MI} {mr : MR} {q : Nat} (hk : bk_c sh mr q) (p1 : Int32) (g : Nat) (hg : mi q 5 = nI g) (hg6 : g ≤ 6) : EV none 1 0 0 mX0_addGathering 0 (en_l mX0_addGathering [pv_r q, pv_i p1]) [] sh mi mr (fun v_ sh_ mi_ mr_ => (((mi q 5) < 6) ∧ (ok_r sh mr (((up_2 (up_2 (up_2 mi (q + 1) g p1) (q + 2) g ((1 <<< (p1 &&& 31)) - 1)) q 5 (((up_2 (up_2 mi (q + 1) g p1) (q + 2) g ((1 <<< (p1 &&& 31)) - 1)) q 5) + 1)) q 5) - 1) (up_2 (up_2 (up_2 mi (q + 1) g p1) (q + 2) g ((1 <<< (p1 &&& 31)) - 1)) q 5 (((up_2 (up_2 mi (q + 1) g p1) (q + 2) g ((1 <<< (p1 &&& 31)) - 1)) q 5) + 1))) v_ sh_ mi_ mr_) ∨ ((¬ (mi q 5) < 6) ∧ (ok_r sh mr (-6) mi) v_ sh_ mi_ mr_)) := by
  show EV none 1 0 0 mX0_addGathering 0 [some (pv_r q), some (pv_i p1)] [] sh mi mr _
  refine ev_aload_n dX0_addGathering_0 rfl ?_
  refine ev_geti dX0_addGathering_1 fl_X0_27 rfl hk.1 ?_
  refine ev_bipush (v := 6) dX0_addGathering_4 rfl ?_
  refine ev_icmp_lt (tgt := 12) dX0_addGathering_6 rfl (fun h6 => ?_) (fun h6 => ?_)
  · refine ev_aload_n dX0_addGathering_12 rfl ?_
    refine ev_getq dX0_addGathering_13 fl_X0_9 rfl hk.1 hk.2.1.1 ?_
    refine ev_aload_n dX0_addGathering_16 rfl ?_
    refine ev_geti dX0_addGathering_17 fl_X0_27 rfl hk.1 ?_
    refine ev_iload_n dX0_addGathering_20 rfl ?_
    refine ev_iast dX0_addGathering_21 hk.2.2.1 (j := g) (by simp [up_2, pk_mul, nI_add, n_5, n_6, n_12, n_144, hg]) ((nl_lt hg (b := 6) rfl (by omega) (by decide)).mp h6) (by decide) ?_
    refine ev_aload_n dX0_addGathering_22 rfl ?_
    refine ev_getq dX0_addGathering_23 fl_X0_15 rfl hk.1 hk.2.1.2.1 ?_
    refine ev_aload_n dX0_addGathering_26 rfl ?_
    refine ev_geti dX0_addGathering_27 fl_X0_27 rfl hk.1 ?_
    refine ev_iload_n dX0_addGathering_30 rfl ?_
    refine ev_s1i dX0_addGathering_31 cs_X0_46 (Nat.le_of_ble_eq_true rfl) (by decide) (t_X0_allOf _) ?_
    refine ev_iast dX0_addGathering_34 hk.2.2.2.1 (j := g) (by simp [up_2, pk_mul, nI_add, n_5, n_6, n_12, n_144, hg]) ((nl_lt hg (b := 6) rfl (by omega) (by decide)).mp h6) (by decide) ?_
    refine ev_aload_n dX0_addGathering_35 rfl ?_
    refine ev_dup dX0_addGathering_36 ?_
    refine ev_geti dX0_addGathering_37 fl_X0_27 rfl hk.1 ?_
    refine ev_iconst (v := 1) dX0_addGathering_40 rfl ?_
    refine ev_iadd dX0_addGathering_41 ?_
    refine ev_puti dX0_addGathering_42 fl_X0_27 rfl rfl hk.1 ?_
    refine ev_aload_n dX0_addGathering_45 rfl ?_
    refine ev_geti dX0_addGathering_46 fl_X0_27 rfl hk.1 ?_
    refine ev_iconst (v := 1) dX0_addGathering_49 rfl ?_
    refine ev_isub dX0_addGathering_50 ?_
    exact ev_ireturn (ty := .int) dX0_addGathering_51 rfl rfl (Or.inl ⟨h6, rfl, rfl, rfl, rfl⟩)
  · refine ev_bipush (v := (-6)) dX0_addGathering_9 rfl ?_
    exact ev_ireturn (ty := .int) dX0_addGathering_11 rfl rfl (Or.inr ⟨h6, rfl, rfl, rfl, rfl⟩)
set_option maxRecDepth 100000 in
set_option maxHeartbeats 4000000 in
theorem t_X0_hasGathering {sh : SH} {mi : MI} {mr : MR} {q : Nat} (hk : bk_c sh mr q) (p1 : Int32) : EV none 1 0 0 mX0_hasGathering 0 (en_l mX0_hasGathering [pv_r q, pv_i p1]) [] sh mi mr (ok_r sh mr (bi (0 ≤ p1 ∧ p1 ≤ ((mi q 5) - 1))) mi) := by
  show EV none 1 0 0 mX0_hasGathering 0 [some (pv_r q), some (pv_i p1)] [] sh mi mr _
  refine ev_iload_n dX0_hasGathering_0 rfl ?_
  refine ev_iconst (v := 0) dX0_hasGathering_1 rfl ?_
  refine ev_aload_n dX0_hasGathering_2 rfl ?_
  refine ev_geti dX0_hasGathering_3 fl_X0_27 rfl hk.1 ?_
  refine ev_iconst (v := 1) dX0_hasGathering_6 rfl ?_
  refine ev_isub dX0_hasGathering_7 ?_
  refine ev_t3i dX0_hasGathering_8 cn_X0_50 (Nat.le_of_ble_eq_true rfl) (by decide) (t_X5_within _ _ _) ?_
  exact ev_ireturn (ty := .boolean) dX0_hasGathering_11 rfl bi_nar ⟨rfl, rfl, rfl, rfl⟩
set_option maxRecDepth 100000 in
set_option maxHeartbeats 4000000 in
theorem t_X0_hasLeaves {sh : SH} {mi : MI} {mr : MR} {q : Nat} (hk : bk_c sh mr q) (j : Nat) (hj : j < 6) (p2 : Int32) : EV none 1 0 0 mX0_hasLeaves 0 (en_l mX0_hasLeaves [pv_r q, pv_i (nI j), pv_i p2]) [] sh mi mr (ok_r sh mr (bi ((p2 &&& (((1 <<< ((mi (q + 1) j) &&& 31)) - 1) ^^^ (-1))) = 0)) mi) := by
  show EV none 1 0 0 mX0_hasLeaves 0 [some (pv_r q), some (pv_i (nI j)), some (pv_i p2)] [] sh mi mr _
  refine ev_iload_n dX0_hasLeaves_0 rfl ?_
  refine ev_aload_n dX0_hasLeaves_1 rfl ?_
  refine ev_getq dX0_hasLeaves_2 fl_X0_9 rfl hk.1 hk.2.1.1 ?_
  refine ev_iload_n dX0_hasLeaves_5 rfl ?_
  refine ev_iald dX0_hasLeaves_6 hk.2.2.1 (j := j) rfl (by omega) (by decide) ?_
  refine ev_s1i dX0_hasLeaves_7 cs_X0_46 (Nat.le_of_ble_eq_true rfl) (by decide) (t_X0_allOf _) ?_
  refine ev_iconst (v := (-1)) dX0_hasLeaves_10 rfl ?_
  refine ev_ixor dX0_hasLeaves_11 ?_
  refine ev_iand dX0_hasLeaves_12 ?_
  refine ev_if_ne (tgt := 20) dX0_hasLeaves_13 rfl (fun h13 => ?_) (fun h13 => ?_)
  · refine ev_iconst (v := 0) dX0_hasLeaves_20 rfl ?_
    exact ev_ireturn (ty := .boolean) dX0_hasLeaves_21 rfl rfl ⟨congrArg (fun z => some (pv_i z)) (bi_f h13).symm, rfl, rfl, rfl⟩
  · refine ev_iconst (v := 1) dX0_hasLeaves_16 rfl ?_
    refine ev_goto (tgt := 21) dX0_hasLeaves_17 rfl ?_
    exact ev_ireturn (ty := .boolean) dX0_hasLeaves_21 rfl rfl ⟨congrArg (fun z => some (pv_i z)) (bi_1 h13).symm, rfl, rfl, rfl⟩
set_option maxRecDepth 100000 in
set_option maxHeartbeats 4000000 in
theorem t_X0_inspect {sh : SH} {mi : MI} {mr : MR} {q : Nat} (hk : bk_c sh mr q) (j : Nat) (hj : j < 6) (p2 : Int32) (a : Nat) (ha : mi q 6 = nI a) (ha5 : a ≤ 5) (hA5 : a < 5) : EV none 1 0 0 mX0_inspect 0 (en_l mX0_inspect [pv_r q, pv_i (nI j), pv_i p2]) [] sh mi mr (ok_r sh mr ((bc ((mi (q + 2) j) &&& (p2 ^^^ (-1)))) + (bc (p2 &&& ((mi (q + 2) j) ^^^ (-1))))) (up_2 (up_2 (up_2 (up_2 mi (q + 3) a ((mi (q + 3) a) + (bc ((mi (q + 2) j) &&& (p2 ^^^ (-1)))))) (q + 4) a (((up_2 mi (q + 3) a ((mi (q + 3) a) + (bc ((mi (q + 2) j) &&& (p2 ^^^ (-1)))))) (q + 4) a) + (bc (p2 &&& ((mi (q + 2) j) ^^^ (-1)))))) (q + 2) j p2) q 7 (((up_2 (up_2 (up_2 mi (q + 3) a ((mi (q + 3) a) + (bc ((mi (q + 2) j) &&& (p2 ^^^ (-1)))))) (q + 4) a (((up_2 mi (q + 3) a ((mi (q + 3) a) + (bc ((mi (q + 2) j) &&& (p2 ^^^ (-1)))))) (q + 4) a) + (bc (p2 &&& ((mi (q + 2) j) ^^^ (-1)))))) (q + 2) j p2) q 7) ||| (1 <<< ((nI j) &&& 31))))) := by
  show EV none 1 0 0 mX0_inspect 0 [some (pv_r q), some (pv_i (nI j)), some (pv_i p2), none, none] [] sh mi mr _
  refine ev_aload_n dX0_inspect_0 rfl ?_
  refine ev_getq dX0_inspect_1 fl_X0_15 rfl hk.1 hk.2.1.2.1 ?_
  refine ev_iload_n dX0_inspect_4 rfl ?_
  refine ev_iald dX0_inspect_5 hk.2.2.2.1 (j := j) rfl (by omega) (by decide) ?_
  refine ev_iload_n dX0_inspect_6 rfl ?_
  refine ev_iconst (v := (-1)) dX0_inspect_7 rfl ?_
  refine ev_ixor dX0_inspect_8 ?_
  refine ev_iand dX0_inspect_9 ?_
  refine ev_s1i dX0_inspect_10 cs_X0_54 (Nat.le_of_ble_eq_true rfl) (by decide) (t_J6_bitCount _) ?_
  refine ev_istore_n dX0_inspect_13 (by decide) ?_
  refine ev_iload_n dX0_inspect_14 rfl ?_
  refine ev_aload_n dX0_inspect_15 rfl ?_
  refine ev_getq dX0_inspect_16 fl_X0_15 rfl hk.1 hk.2.1.2.1 ?_
  refine ev_iload_n dX0_inspect_19 rfl ?_
  refine ev_iald dX0_inspect_20 hk.2.2.2.1 (j := j) rfl (by omega) (by decide) ?_
  refine ev_iconst (v := (-1)) dX0_inspect_21 rfl ?_
  refine ev_ixor dX0_inspect_22 ?_
  refine ev_iand dX0_inspect_23 ?_
  refine ev_s1i dX0_inspect_24 cs_X0_54 (Nat.le_of_ble_eq_true rfl) (by decide) (t_J6_bitCount _) ?_
  refine ev_istore dX0_inspect_27 (by decide) ?_
  refine ev_aload_n dX0_inspect_29 rfl ?_
  refine ev_geti dX0_inspect_30 fl_X0_31 rfl hk.1 ?_
  refine ev_iconst (v := 5) dX0_inspect_33 rfl ?_
  refine ev_icmp_ge_f (tgt := 64) dX0_inspect_34 rfl (by rw [ha]; exact fun h => absurd ((nI_leI (a := 5) (by decide) (by omega)).mp h) (by omega)) ?_
  refine ev_aload_n dX0_inspect_37 rfl ?_
  refine ev_getq dX0_inspect_38 fl_X0_18 rfl hk.1 hk.2.1.2.2.1 ?_
  refine ev_aload_n dX0_inspect_41 rfl ?_
  refine ev_geti dX0_inspect_42 fl_X0_31 rfl hk.1 ?_
  refine ev_dup2 dX0_inspect_45 ?_
  refine ev_iald dX0_inspect_46 hk.2.2.2.2.1 (j := a) (by simp [up_2, pk_mul, nI_add, n_5, n_6, n_12, n_144, ha]) (by omega) (by decide) ?_
  refine ev_iload_n dX0_inspect_47 rfl ?_
  refine ev_iadd dX0_inspect_48 ?_
  refine ev_iast dX0_inspect_49 hk.2.2.2.2.1 (j := a) (by simp [up_2, pk_mul, nI_add, n_5, n_6, n_12, n_144, ha]) (by omega) (by decide) ?_
  refine ev_aload_n dX0_inspect_50 rfl ?_
  refine ev_getq dX0_inspect_51 fl_X0_21 rfl hk.1 hk.2.1.2.2.2.1 ?_
  refine ev_aload_n dX0_inspect_54 rfl ?_
  refine ev_geti dX0_inspect_55 fl_X0_31 rfl hk.1 ?_
  refine ev_dup2 dX0_inspect_58 ?_
  refine ev_iald dX0_inspect_59 hk.2.2.2.2.2.1 (j := a) (by simp [up_2, pk_mul, nI_add, n_5, n_6, n_12, n_144, ha]) (by omega) (by decide) ?_
  refine ev_iload dX0_inspect_60 rfl ?_
  refine ev_iadd dX0_inspect_62 ?_
  refine ev_iast dX0_inspect_63 hk.2.2.2.2.2.1 (j := a) (by simp [up_2, pk_mul, nI_add, n_5, n_6, n_12, n_144, ha]) (by omega) (by decide) ?_
  refine ev_aload_n dX0_inspect_64 rfl ?_
  refine ev_getq dX0_inspect_65 fl_X0_15 rfl hk.1 hk.2.1.2.1 ?_
  refine ev_iload_n dX0_inspect_68 rfl ?_
  refine ev_iload_n dX0_inspect_69 rfl ?_
  refine ev_iast dX0_inspect_70 hk.2.2.2.1 (j := j) rfl (by omega) (by decide) ?_
  refine ev_aload_n dX0_inspect_71 rfl ?_
  refine ev_dup dX0_inspect_72 ?_
  refine ev_geti dX0_inspect_73 fl_X0_34 rfl hk.1 ?_
  refine ev_iconst (v := 1) dX0_inspect_76 rfl ?_
  refine ev_iload_n dX0_inspect_77 rfl ?_
  refine ev_ishl dX0_inspect_78 ?_
  refine ev_ior dX0_inspect_79 ?_
  refine ev_puti dX0_inspect_80 fl_X0_34 rfl rfl hk.1 ?_
  refine ev_iload_n dX0_inspect_83 rfl ?_
  refine ev_iload dX0_inspect_84 rfl ?_
  refine ev_iadd dX0_inspect_86 ?_
  exact ev_ireturn (ty := .int) dX0_inspect_87 rfl rfl ⟨rfl, rfl, rfl, rfl⟩
set_option maxRecDepth 100000 in
set_option maxHeartbeats 4000000 in
theorem t_X0_mayMoveOn {sh : SH} {mi : MI} {mr : MR} {q : Nat} (hk : bk_c sh mr q) : EV none 1 0 0 mX0_mayMoveOn 0 (en_l mX0_mayMoveOn [pv_r q]) [] sh mi mr (ok_r sh mr (bi (¬ mi q 6 = 5 ∧ ¬ mi q 5 ≤ 0 ∧ mi q 7 = (1 <<< (mi q 5 &&& 31)) - 1)) mi) := by
  show EV none 1 0 0 mX0_mayMoveOn 0 [some (pv_r q)] [] sh mi mr _
  refine ev_aload_n dX0_mayMoveOn_0 rfl ?_
  refine ev_geti dX0_mayMoveOn_1 fl_X0_31 rfl hk.1 ?_
  refine ev_iconst (v := 5) dX0_mayMoveOn_4 rfl ?_
  refine ev_icmp_eq (tgt := 33) dX0_mayMoveOn_5 rfl (fun h5 => ?_) (fun h5 => ?_)
  · refine ev_iconst (v := 0) dX0_mayMoveOn_33 rfl ?_
    exact ev_ireturn (ty := .boolean) dX0_mayMoveOn_34 rfl rfl ⟨congrArg (fun z => some (pv_i z)) (by simp_all [bi]), rfl, rfl, rfl⟩
  · refine ev_aload_n dX0_mayMoveOn_8 rfl ?_
    refine ev_geti dX0_mayMoveOn_9 fl_X0_27 rfl hk.1 ?_
    refine ev_if_le (tgt := 33) dX0_mayMoveOn_12 rfl (fun h12 => ?_) (fun h12 => ?_)
    · refine ev_iconst (v := 0) dX0_mayMoveOn_33 rfl ?_
      exact ev_ireturn (ty := .boolean) dX0_mayMoveOn_34 rfl rfl ⟨congrArg (fun z => some (pv_i z)) (by simp_all [bi]), rfl, rfl, rfl⟩
    · refine ev_aload_n dX0_mayMoveOn_15 rfl ?_
      refine ev_geti dX0_mayMoveOn_16 fl_X0_34 rfl hk.1 ?_
      refine ev_aload_n dX0_mayMoveOn_19 rfl ?_
      refine ev_geti dX0_mayMoveOn_20 fl_X0_27 rfl hk.1 ?_
      refine ev_s1i dX0_mayMoveOn_23 cs_X0_46 (Nat.le_of_ble_eq_true rfl) (by decide) (t_X0_allOf _) ?_
      refine ev_icmp_ne (tgt := 33) dX0_mayMoveOn_26 rfl (fun h26 => ?_) (fun h26 => ?_)
      · refine ev_iconst (v := 0) dX0_mayMoveOn_33 rfl ?_
        exact ev_ireturn (ty := .boolean) dX0_mayMoveOn_34 rfl rfl ⟨congrArg (fun z => some (pv_i z)) (by simp_all [bi]), rfl, rfl, rfl⟩
      · refine ev_iconst (v := 1) dX0_mayMoveOn_29 rfl ?_
        refine ev_goto (tgt := 34) dX0_mayMoveOn_30 rfl ?_
        exact ev_ireturn (ty := .boolean) dX0_mayMoveOn_34 rfl rfl ⟨congrArg (fun z => some (pv_i z)) (by simp_all [bi]), rfl, rfl, rfl⟩
set_option maxRecDepth 100000 in
set_option maxHeartbeats 4000000 in
theorem t_X0_moveOn {sh : SH} {mi : MI} {mr : MR} {q : Nat} (hk : bk_c sh mr q) : EV none 0 0 0 mX0_moveOn 0 (en_l mX0_moveOn [pv_r q]) [] sh mi mr (ok_r sh mr ((up_2 (up_2 mi q 6 ((mi q 6) + 1)) q 7 0) q 6) (up_2 (up_2 mi q 6 ((mi q 6) + 1)) q 7 0)) := by
  show EV none 0 0 0 mX0_moveOn 0 [some (pv_r q)] [] sh mi mr _
  refine ev_aload_n dX0_moveOn_0 rfl ?_
  refine ev_dup dX0_moveOn_1 ?_
  refine ev_geti dX0_moveOn_2 fl_X0_31 rfl hk.1 ?_
  refine ev_iconst (v := 1) dX0_moveOn_5 rfl ?_
  refine ev_iadd dX0_moveOn_6 ?_
  refine ev_puti dX0_moveOn_7 fl_X0_31 rfl rfl hk.1 ?_
  refine ev_aload_n dX0_moveOn_10 rfl ?_
  refine ev_iconst (v := 0) dX0_moveOn_11 rfl ?_
  refine ev_puti dX0_moveOn_12 fl_X0_34 rfl rfl hk.1 ?_
  refine ev_aload_n dX0_moveOn_15 rfl ?_
  refine ev_geti dX0_moveOn_16 fl_X0_31 rfl hk.1 ?_
  exact ev_ireturn (ty := .int) dX0_moveOn_19 rfl rfl ⟨rfl, rfl, rfl, rfl⟩
def sm_c (f : Nat → Int32) : Nat → Int32
  | 0 => 0
  | i + 1 => sm_c f i + f i
theorem sm_congr {f g : Nat → Int32} : ∀ n, (∀ i, i < n → f i = g i) → sm_c f n = sm_c g n
  | 0, _ => rfl
  | n + 1, h => by
    show sm_c f n + f n = sm_c g n + g n
    rw [sm_congr n (fun i hi => h i (by omega)), h n (by omega)]
set_option maxRecDepth 100000 in
set_option maxHeartbeats 4000000 in
theorem lp_X0_leavesBelieved {sh : SH} {mi : MI} {mr : MR} {q : Nat} (hk : bk_c sh mr q) (g : Nat) (hg : mi q 5 = nI g) (hg6 : g ≤ 6) : ∀ i, i ≤ g → EV none 1 0 0 mX0_leavesBelieved 4 [some (pv_r q), some (pv_i (sm_c (fun k => bc (mi (q + 2) k)) i)), some (pv_i (nI i))] [] sh mi mr (ok_r sh mr (sm_c (fun k => bc (mi (q + 2) k)) g) mi) := by
  refine lp_i g (fun i hi ih => ?_)
  refine ev_iload_n dX0_leavesBelieved_4 rfl ?_
  refine ev_aload_n dX0_leavesBelieved_5 rfl ?_
  refine ev_geti dX0_leavesBelieved_6 fl_X0_27 rfl hk.1 ?_
  refine ev_icmp_ge (tgt := 30) dX0_leavesBelieved_9 rfl (fun h9 => ?_) (fun h9 => ?_)
  · have hin : i = g := by have := (nl_le hg rfl (by omega) (by omega)).mp h9; omega
    subst hin
    refine ev_iload_n dX0_leavesBelieved_30 rfl ?_
    exact ev_ireturn (ty := .int) dX0_leavesBelieved_31 rfl rfl ⟨rfl, rfl, rfl, rfl⟩
  · have hlt : i < g := by have := (not_congr (nl_le hg rfl (by omega) (by omega))).mp h9; omega
    refine ev_iload_n dX0_leavesBelieved_12 rfl ?_
    refine ev_aload_n dX0_leavesBelieved_13 rfl ?_
    refine ev_getq dX0_leavesBelieved_14 fl_X0_15 rfl hk.1 hk.2.1.2.1 ?_
    refine ev_iload_n dX0_leavesBelieved_17 rfl ?_
    refine ev_iald dX0_leavesBelieved_18 hk.2.2.2.1 (j := i) rfl (by omega) (by decide) ?_
    refine ev_s1i dX0_leavesBelieved_19 cs_X0_54 (Nat.le_of_ble_eq_true rfl) (by decide) (t_J6_bitCount _) ?_
    refine ev_iadd dX0_leavesBelieved_22 ?_
    refine ev_istore_n dX0_leavesBelieved_23 (by decide) ?_
    refine ev_iincN dX0_leavesBelieved_24 rfl (by decide) ?_
    refine ev_goto (tgt := 4) dX0_leavesBelieved_27 rfl ?_
    exact ih hlt
set_option maxRecDepth 100000 in
set_option maxHeartbeats 4000000 in
theorem t_X0_leavesBelieved {sh : SH} {mi : MI} {mr : MR} {q : Nat} (hk : bk_c sh mr q) (g : Nat) (hg : mi q 5 = nI g) (hg6 : g ≤ 6) : EV none 1 0 0 mX0_leavesBelieved 0 (en_l mX0_leavesBelieved [pv_r q]) [] sh mi mr (ok_r sh mr (sm_c (fun k => bc (mi (q + 2) k)) g) mi) := by
  show EV none 1 0 0 mX0_leavesBelieved 0 [some (pv_r q), none, none] [] sh mi mr _
  refine ev_iconst (v := 0) dX0_leavesBelieved_0 rfl ?_
  refine ev_istore_n dX0_leavesBelieved_1 (by decide) ?_
  refine ev_iconst (v := 0) dX0_leavesBelieved_2 rfl ?_
  refine ev_istore_n dX0_leavesBelieved_3 (by decide) ?_
  exact lp_X0_leavesBelieved hk g hg hg6 0 (Nat.zero_le g)
set_option maxRecDepth 100000 in
set_option maxHeartbeats 4000000 in
theorem lp_X0_leavesInAll {sh : SH} {mi : MI} {mr : MR} {q : Nat} (hk : bk_c sh mr q) (g : Nat) (hg : mi q 5 = nI g) (hg6 : g ≤ 6) : ∀ i, i ≤ g → EV none 1 0 0 mX0_leavesInAll 4 [some (pv_r q), some (pv_i (sm_c (mi (q + 1)) i)), some (pv_i (nI i))] [] sh mi mr (ok_r sh mr (sm_c (mi (q + 1)) g) mi) := by
  refine lp_i g (fun i hi ih => ?_)
  refine ev_iload_n dX0_leavesInAll_4 rfl ?_
  refine ev_aload_n dX0_leavesInAll_5 rfl ?_
  refine ev_geti dX0_leavesInAll_6 fl_X0_27 rfl hk.1 ?_
  refine ev_icmp_ge (tgt := 27) dX0_leavesInAll_9 rfl (fun h9 => ?_) (fun h9 => ?_)
  · have hin : i = g := by have := (nl_le hg rfl (by omega) (by omega)).mp h9; omega
    subst hin
    refine ev_iload_n dX0_leavesInAll_27 rfl ?_
    exact ev_ireturn (ty := .int) dX0_leavesInAll_28 rfl rfl ⟨rfl, rfl, rfl, rfl⟩
  · have hlt : i < g := by have := (not_congr (nl_le hg rfl (by omega) (by omega))).mp h9; omega
    refine ev_iload_n dX0_leavesInAll_12 rfl ?_
    refine ev_aload_n dX0_leavesInAll_13 rfl ?_
    refine ev_getq dX0_leavesInAll_14 fl_X0_9 rfl hk.1 hk.2.1.1 ?_
    refine ev_iload_n dX0_leavesInAll_17 rfl ?_
    refine ev_iald dX0_leavesInAll_18 hk.2.2.1 (j := i) rfl (by omega) (by decide) ?_
    refine ev_iadd dX0_leavesInAll_19 ?_
    refine ev_istore_n dX0_leavesInAll_20 (by decide) ?_
    refine ev_iincN dX0_leavesInAll_21 rfl (by decide) ?_
    refine ev_goto (tgt := 4) dX0_leavesInAll_24 rfl ?_
    exact ih hlt
set_option maxRecDepth 100000 in
set_option maxHeartbeats 4000000 in
theorem t_X0_leavesInAll {sh : SH} {mi : MI} {mr : MR} {q : Nat} (hk : bk_c sh mr q) (g : Nat) (hg : mi q 5 = nI g) (hg6 : g ≤ 6) : EV none 1 0 0 mX0_leavesInAll 0 (en_l mX0_leavesInAll [pv_r q]) [] sh mi mr (ok_r sh mr (sm_c (mi (q + 1)) g) mi) := by
  show EV none 1 0 0 mX0_leavesInAll 0 [some (pv_r q), none, none] [] sh mi mr _
  refine ev_iconst (v := 0) dX0_leavesInAll_0 rfl ?_
  refine ev_istore_n dX0_leavesInAll_1 (by decide) ?_
  refine ev_iconst (v := 0) dX0_leavesInAll_2 rfl ?_
  refine ev_istore_n dX0_leavesInAll_3 (by decide) ?_
  exact lp_X0_leavesInAll hk g hg hg6 0 (Nat.zero_le g)
set_option maxRecDepth 100000 in
set_option maxHeartbeats 4000000 in
theorem t_X5_bookAt_k {sh : SH} {mi : MI} {mr : MR} (hB : ba_c sh mr) (nb : Nat) (hnb : mi 0 5 = nI nb) (hnb10 : nb ≤ 10) (b : Nat) (hb : b < nb) {q : Nat} (hq : mr 1 b = some q) (hk : bk_c sh mr q) : EV none 1 0 0 mX5_bookAt 0 (en_l mX5_bookAt [pv_r 0, pv_i (nI b)]) [] sh mi mr (ok_q sh mr (some q) mi) := by
  show EV none 1 0 0 mX5_bookAt 0 [some (pv_r 0), some (pv_i (nI b))] [] sh mi mr _
  refine ev_iload_n dX5_bookAt_0 rfl ?_
  refine ev_iconst (v := 0) dX5_bookAt_1 rfl ?_
  refine ev_aload_n dX5_bookAt_2 rfl ?_
  refine ev_geti dX5_bookAt_3 fl_X5_42 rfl (hB.1 0 _ rfl) ?_
  refine ev_iconst (v := 1) dX5_bookAt_6 rfl ?_
  refine ev_isub dX5_bookAt_7 ?_
  refine ev_s3i dX5_bookAt_8 cs_X5_57 (Nat.le_of_ble_eq_true rfl) (by decide) (t_X5_within _ _ _) ?_
  refine ev_if_eq_f (tgt := 23) dX5_bookAt_11 rfl (by rw [bi_1 (by rw [hnb]; exact (i_cases (by omega)).mpr ⟨b, hb, rfl⟩)]; decide) ?_
  refine ev_aload_n dX5_bookAt_14 rfl ?_
  refine ev_getq dX5_bookAt_15 fl_X5_11 rfl (hB.1 0 _ rfl) (hB.2 0 0 _ rfl) ?_
  refine ev_iload_n dX5_bookAt_18 rfl ?_
  refine ev_aald dX5_bookAt_19 (hB.1 1 _ rfl) (by decide) rfl (j := b) rfl (by omega) (by decide) ?_
  rw [hq]
  refine ev_goto (tgt := 24) dX5_bookAt_20 rfl ?_
  exact ev_areturn dX5_bookAt_24 rfl ⟨rfl, rfl, rfl, rfl⟩
set_option maxRecDepth 100000 in
set_option maxHeartbeats 4000000 in
theorem t_X5_bookAt_u {sh : SH} {mi : MI} {mr : MR} (hB : ba_c sh mr) (p1 : Int32) (hu : ¬ (0 ≤ p1 ∧ p1 ≤ (mi 0 5) - 1)) : EV none 1 0 0 mX5_bookAt 0 (en_l mX5_bookAt [pv_r 0, pv_i p1]) [] sh mi mr (ok_q sh mr none mi) := by
  show EV none 1 0 0 mX5_bookAt 0 [some (pv_r 0), some (pv_i p1)] [] sh mi mr _
  refine ev_iload_n dX5_bookAt_0 rfl ?_
  refine ev_iconst (v := 0) dX5_bookAt_1 rfl ?_
  refine ev_aload_n dX5_bookAt_2 rfl ?_
  refine ev_geti dX5_bookAt_3 fl_X5_42 rfl (hB.1 0 _ rfl) ?_
  refine ev_iconst (v := 1) dX5_bookAt_6 rfl ?_
  refine ev_isub dX5_bookAt_7 ?_
  refine ev_s3i dX5_bookAt_8 cs_X5_57 (Nat.le_of_ble_eq_true rfl) (by decide) (t_X5_within _ _ _) ?_
  refine ev_if_eq_t (tgt := 23) dX5_bookAt_11 rfl (bi_f hu) ?_
  refine ev_null dX5_bookAt_23 ?_
  exact ev_areturn dX5_bookAt_24 rfl ⟨rfl, rfl, rfl, rfl⟩
set_option maxRecDepth 100000 in
set_option maxHeartbeats 4000000 in
theorem t_X5_gather_u {sh : SH} {mi : MI} {mr : MR} (hB : ba_c sh mr) (p1 : Int32) (hu : ¬ (0 ≤ p1 ∧ p1 ≤ (mi 0 5) - 1)) (p2 : Int32) : EV none 2 0 0 mX5_gather 0 (en_l mX5_gather [pv_r 0, pv_i p1, pv_i p2]) [] sh mi mr (ok_r sh mr (-2) mi) := by
  show EV none 2 0 0 mX5_gather 0 [some (pv_r 0), some (pv_i p1), some (pv_i p2), none] [] sh mi mr _
  refine ev_aload_n dX5_gather_0 rfl ?_
  refine ev_iload_n dX5_gather_1 rfl ?_
  refine ev_v1q dX5_gather_2 cv_X5_53 (hB.1 0 _ rfl) (Nat.le_of_ble_eq_true rfl) (by decide) (t_X5_bookAt_u hB _ hu) ?_
  refine ev_astore_n dX5_gather_5 (by decide) ?_
  refine ev_aload_n dX5_gather_6 rfl ?_
  refine ev_ifnonnull_n (tgt := 13) dX5_gather_7 rfl ?_
  refine ev_bipush (v := (-2)) dX5_gather_10 rfl ?_
  exact ev_ireturn (ty := .int) dX5_gather_12 rfl rfl ⟨rfl, rfl, rfl, rfl⟩
set_option maxRecDepth 100000 in
set_option maxHeartbeats 4000000 in
theorem t_X5_look_u {sh : SH} {mi : MI} {mr : MR} (hB : ba_c sh mr) (p1 : Int32) (hu : ¬ (0 ≤ p1 ∧ p1 ≤ (mi 0 5) - 1)) (p2 p3 : Int32) : EV none 2 0 0 mX5_look 0 (en_l mX5_look [pv_r 0, pv_i p1, pv_i p2, pv_i p3]) [] sh mi mr (ok_r sh mr (-2) mi) := by
  show EV none 2 0 0 mX5_look 0 [some (pv_r 0), some (pv_i p1), some (pv_i p2), some (pv_i p3), none] [] sh mi mr _
  refine ev_aload_n dX5_look_0 rfl ?_
  refine ev_iload_n dX5_look_1 rfl ?_
  refine ev_v1q dX5_look_2 cv_X5_53 (hB.1 0 _ rfl) (Nat.le_of_ble_eq_true rfl) (by decide) (t_X5_bookAt_u hB _ hu) ?_
  refine ev_astore dX5_look_5 (by decide) ?_
  refine ev_aload dX5_look_7 rfl ?_
  refine ev_ifnull_n (tgt := 21) dX5_look_9 rfl ?_
  refine ev_bipush (v := (-2)) dX5_look_21 rfl ?_
  exact ev_ireturn (ty := .int) dX5_look_23 rfl rfl ⟨rfl, rfl, rfl, rfl⟩
set_option maxRecDepth 100000 in
set_option maxHeartbeats 4000000 in
theorem t_X5_pass_u {sh : SH} {mi : MI} {mr : MR} (hB : ba_c sh mr) (p1 : Int32) (hu : ¬ (0 ≤ p1 ∧ p1 ≤ (mi 0 5) - 1)) : EV none 2 0 0 mX5_pass 0 (en_l mX5_pass [pv_r 0, pv_i p1]) [] sh mi mr (ok_r sh mr (-2) mi) := by
  show EV none 2 0 0 mX5_pass 0 [some (pv_r 0), some (pv_i p1), none] [] sh mi mr _
  refine ev_aload_n dX5_pass_0 rfl ?_
  refine ev_iload_n dX5_pass_1 rfl ?_
  refine ev_v1q dX5_pass_2 cv_X5_53 (hB.1 0 _ rfl) (Nat.le_of_ble_eq_true rfl) (by decide) (t_X5_bookAt_u hB _ hu) ?_
  refine ev_astore_n dX5_pass_5 (by decide) ?_
  refine ev_aload_n dX5_pass_6 rfl ?_
  refine ev_ifnonnull_n (tgt := 13) dX5_pass_7 rfl ?_
  refine ev_bipush (v := (-2)) dX5_pass_10 rfl ?_
  exact ev_ireturn (ty := .int) dX5_pass_12 rfl rfl ⟨rfl, rfl, rfl, rfl⟩
set_option maxRecDepth 100000 in
set_option maxHeartbeats 4000000 in
theorem t_X5_told_u {sh : SH} {mi : MI} {mr : MR} (hB : ba_c sh mr) (p1 : Int32) (hu : ¬ (0 ≤ p1 ∧ p1 ≤ (mi 0 5) - 1)) (p2 : Int32) : EV none 2 0 0 mX5_told 0 (en_l mX5_told [pv_r 0, pv_i p1, pv_i p2]) [] sh mi mr (ok_r sh mr (-2) mi) := by
  show EV none 2 0 0 mX5_told 0 [some (pv_r 0), some (pv_i p1), some (pv_i p2), none] [] sh mi mr _
  refine ev_aload_n dX5_told_0 rfl ?_
  refine ev_iload_n dX5_told_1 rfl ?_
  refine ev_v1q dX5_told_2 cv_X5_53 (hB.1 0 _ rfl) (Nat.le_of_ble_eq_true rfl) (by decide) (t_X5_bookAt_u hB _ hu) ?_
  refine ev_astore_n dX5_told_5 (by decide) ?_
  refine ev_aload_n dX5_told_6 rfl ?_
  refine ev_ifnonnull_n (tgt := 13) dX5_told_7 rfl ?_
  refine ev_bipush (v := (-2)) dX5_told_10 rfl ?_
  exact ev_ireturn (ty := .int) dX5_told_12 rfl rfl ⟨rfl, rfl, rfl, rfl⟩
set_option maxRecDepth 100000 in
set_option maxHeartbeats 4000000 in
theorem t_X5_there_u {sh : SH} {mi : MI} {mr : MR} (hB : ba_c sh mr) (p1 : Int32) (hu : ¬ (0 ≤ p1 ∧ p1 ≤ (mi 0 5) - 1)) (p2 : Int32) : EV none 2 0 0 mX5_there 0 (en_l mX5_there [pv_r 0, pv_i p1, pv_i p2]) [] sh mi mr (ok_r sh mr (-2) mi) := by
  show EV none 2 0 0 mX5_there 0 [some (pv_r 0), some (pv_i p1), some (pv_i p2), none] [] sh mi mr _
  refine ev_aload_n dX5_there_0 rfl ?_
  refine ev_iload_n dX5_there_1 rfl ?_
  refine ev_v1q dX5_there_2 cv_X5_53 (hB.1 0 _ rfl) (Nat.le_of_ble_eq_true rfl) (by decide) (t_X5_bookAt_u hB _ hu) ?_
  refine ev_astore_n dX5_there_5 (by decide) ?_
  refine ev_aload_n dX5_there_6 rfl ?_
  refine ev_ifnull_n (tgt := 18) dX5_there_7 rfl ?_
  refine ev_bipush (v := (-2)) dX5_there_18 rfl ?_
  exact ev_ireturn (ty := .int) dX5_there_20 rfl rfl ⟨rfl, rfl, rfl, rfl⟩
set_option maxRecDepth 100000 in
set_option maxHeartbeats 4000000 in
theorem t_X5_gone_u {sh : SH} {mi : MI} {mr : MR} (hB : ba_c sh mr) (p1 : Int32) (hu : ¬ (0 ≤ p1 ∧ p1 ≤ (mi 0 5) - 1)) (p2 p3 : Int32) : EV none 2 0 0 mX5_gone 0 (en_l mX5_gone [pv_r 0, pv_i p1, pv_i p2, pv_i p3]) [] sh mi mr (ok_r sh mr (-2) mi) := by
  show EV none 2 0 0 mX5_gone 0 [some (pv_r 0), some (pv_i p1), some (pv_i p2), some (pv_i p3), none] [] sh mi mr _
  refine ev_aload_n dX5_gone_0 rfl ?_
  refine ev_iload_n dX5_gone_1 rfl ?_
  refine ev_v1q dX5_gone_2 cv_X5_53 (hB.1 0 _ rfl) (Nat.le_of_ble_eq_true rfl) (by decide) (t_X5_bookAt_u hB _ hu) ?_
  refine ev_astore dX5_gone_5 (by decide) ?_
  refine ev_aload dX5_gone_7 rfl ?_
  refine ev_ifnull_n (tgt := 19) dX5_gone_9 rfl ?_
  refine ev_bipush (v := (-2)) dX5_gone_19 rfl ?_
  exact ev_ireturn (ty := .int) dX5_gone_21 rfl rfl ⟨rfl, rfl, rfl, rfl⟩
set_option maxRecDepth 100000 in
set_option maxHeartbeats 4000000 in
theorem t_X5_hours_u {sh : SH} {mi : MI} {mr : MR} (hB : ba_c sh mr) (p1 : Int32) (hu : ¬ (0 ≤ p1 ∧ p1 ≤ (mi 0 5) - 1)) (p2 p3 : Int32) : EV none 2 0 0 mX5_hours 0 (en_l mX5_hours [pv_r 0, pv_i p1, pv_i p2, pv_i p3]) [] sh mi mr (ok_r sh mr (-2) mi) := by
  show EV none 2 0 0 mX5_hours 0 [some (pv_r 0), some (pv_i p1), some (pv_i p2), some (pv_i p3), none] [] sh mi mr _
  refine ev_aload_n dX5_hours_0 rfl ?_
  refine ev_iload_n dX5_hours_1 rfl ?_
  refine ev_v1q dX5_hours_2 cv_X5_53 (hB.1 0 _ rfl) (Nat.le_of_ble_eq_true rfl) (by decide) (t_X5_bookAt_u hB _ hu) ?_
  refine ev_astore dX5_hours_5 (by decide) ?_
  refine ev_aload dX5_hours_7 rfl ?_
  refine ev_ifnull_n (tgt := 19) dX5_hours_9 rfl ?_
  refine ev_bipush (v := (-2)) dX5_hours_19 rfl ?_
  exact ev_ireturn (ty := .int) dX5_hours_21 rfl rfl ⟨rfl, rfl, rfl, rfl⟩
set_option maxRecDepth 100000 in
set_option maxHeartbeats 4000000 in
theorem t_X5_promise_u {sh : SH} {mi : MI} {mr : MR} (hB : ba_c sh mr) (p1 : Int32) (hu : ¬ (0 ≤ p1 ∧ p1 ≤ (mi 0 5) - 1)) (p2 p3 p4 : Int32) : EV none 2 0 0 mX5_promise 0 (en_l mX5_promise [pv_r 0, pv_i p1, pv_i p2, pv_i p3, pv_i p4]) [] sh mi mr (ok_r sh mr (-2) mi) := by
  show EV none 2 0 0 mX5_promise 0 [some (pv_r 0), some (pv_i p1), some (pv_i p2), some (pv_i p3), some (pv_i p4), none] [] sh mi mr _
  refine ev_aload_n dX5_promise_0 rfl ?_
  refine ev_iload_n dX5_promise_1 rfl ?_
  refine ev_v1q dX5_promise_2 cv_X5_53 (hB.1 0 _ rfl) (Nat.le_of_ble_eq_true rfl) (by decide) (t_X5_bookAt_u hB _ hu) ?_
  refine ev_astore dX5_promise_5 (by decide) ?_
  refine ev_aload dX5_promise_7 rfl ?_
  refine ev_ifnonnull_n (tgt := 15) dX5_promise_9 rfl ?_
  refine ev_bipush (v := (-2)) dX5_promise_12 rfl ?_
  exact ev_ireturn (ty := .int) dX5_promise_14 rfl rfl ⟨rfl, rfl, rfl, rfl⟩
set_option maxRecDepth 100000 in
set_option maxHeartbeats 4000000 in
theorem t_X5_gather_k {sh : SH} {mi : MI} {mr : MR} (hB : ba_c sh mr) (nb : Nat) (hnb : mi 0 5 = nI nb) (hnb10 : nb ≤ 10) (b : Nat) (hb : b < nb) {q : Nat} (hq : mr 1 b = some q) (hk : bk_c sh mr q) (p2 : Int32) (g : Nat) (hg : mi q 5 = nI g) (hg6 : g ≤ 6) : EV none 2 0 0 mX5_gather 0 (en_l mX5_gather [pv_r 0, pv_i (nI b), pv_i p2]) [] sh mi mr (fun v_ sh_ mi_ mr_ => ((1 ≤ p2 ∧ p2 ≤ 16) ∧ ((mi q 6) = 0) ∧ ((mi q 5) < 6) ∧ (ok_r sh mr (((up_2 (up_2 (up_2 mi (q + 1) g p2) (q + 2) g ((1 <<< (p2 &&& 31)) - 1)) q 5 (((up_2 (up_2 mi (q + 1) g p2) (q + 2) g ((1 <<< (p2 &&& 31)) - 1)) q 5) + 1)) q 5) - 1) (up_2 (up_2 (up_2 mi (q + 1) g p2) (q + 2) g ((1 <<< (p2 &&& 31)) - 1)) q 5 (((up_2 (up_2 mi (q + 1) g p2) (q + 2) g ((1 <<< (p2 &&& 31)) - 1)) q 5) + 1))) v_ sh_ mi_ mr_) ∨ ((1 ≤ p2 ∧ p2 ≤ 16) ∧ ((mi q 6) = 0) ∧ (¬ (mi q 5) < 6) ∧ (ok_r sh mr (-6) mi) v_ sh_ mi_ mr_) ∨ ((1 ≤ p2 ∧ p2 ≤ 16) ∧ (¬ (mi q 6) = 0) ∧ (ok_r sh mr (-4) mi) v_ sh_ mi_ mr_) ∨ ((¬ (1 ≤ p2 ∧ p2 ≤ 16)) ∧ (ok_r sh mr (-3) mi) v_ sh_ mi_ mr_)) := by
  show EV none 2 0 0 mX5_gather 0 [some (pv_r 0), some (pv_i (nI b)), some (pv_i p2), none] [] sh mi mr _
  refine ev_aload_n dX5_gather_0 rfl ?_
  refine ev_iload_n dX5_gather_1 rfl ?_
  refine ev_v1q dX5_gather_2 cv_X5_53 (hB.1 0 _ rfl) (Nat.le_of_ble_eq_true rfl) (by decide) (t_X5_bookAt_k hB nb hnb hnb10 b hb hq hk) ?_
  refine ev_astore_n dX5_gather_5 (by decide) ?_
  refine ev_aload_n dX5_gather_6 rfl ?_
  refine ev_ifnonnull_s (tgt := 13) dX5_gather_7 rfl ?_
  refine ev_iload_n dX5_gather_13 rfl ?_
  refine ev_iconst (v := 1) dX5_gather_14 rfl ?_
  refine ev_bipush (v := 16) dX5_gather_15 rfl ?_
  refine ev_s3i dX5_gather_17 cs_X5_57 (Nat.le_of_ble_eq_true rfl) (by decide) (t_X5_within _ _ _) ?_
  refine ev_ifb_ne (tgt := 26) dX5_gather_20 rfl (fun h20 => ?_) (fun h20 => ?_)
  · refine ev_aload_n dX5_gather_26 rfl ?_
    refine ev_geti dX5_gather_27 fl_X5_61 rfl hk.1 ?_
    refine ev_if_eq (tgt := 36) dX5_gather_30 rfl (fun h30 => ?_) (fun h30 => ?_)
    · refine ev_aload_n dX5_gather_36 rfl ?_
      refine ev_iload_n dX5_gather_37 rfl ?_
      refine ev_callv (av := [pv_i p2]) dX5_gather_38 cv_X5_64 hk.1 rfl rfl (Nat.le_of_ble_eq_true rfl) (by decide) (Or.inl (fun v_ s_ m_ r_ h_ => by rcases h_ with ⟨_, _, e_, _, _⟩ | ⟨_, _, e_, _, _⟩ <;> rw [e_])) (Nat.zero_add _) (Nat.zero_add _) (t_X0_addGathering hk _ g hg hg6) ?_
      rintro v_ sh_ mi_ mr_ (⟨qh6, rfl, rfl, rfl, rfl⟩ | ⟨qh6, rfl, rfl, rfl, rfl⟩)
      · exact ev_ireturn (ty := .int) dX5_gather_41 rfl rfl (Or.inl ⟨h20, h30, qh6, rfl, rfl, rfl, rfl⟩)
      · exact ev_ireturn (ty := .int) dX5_gather_41 rfl rfl (Or.inr (Or.inl ⟨h20, h30, qh6, rfl, rfl, rfl, rfl⟩))
    · refine ev_bipush (v := (-4)) dX5_gather_33 rfl ?_
      exact ev_ireturn (ty := .int) dX5_gather_35 rfl rfl (Or.inr (Or.inr (Or.inl ⟨h20, h30, rfl, rfl, rfl, rfl⟩)))
  · refine ev_bipush (v := (-3)) dX5_gather_23 rfl ?_
    exact ev_ireturn (ty := .int) dX5_gather_25 rfl rfl (Or.inr (Or.inr (Or.inr ⟨h20, rfl, rfl, rfl, rfl⟩)))
set_option maxRecDepth 100000 in
set_option maxHeartbeats 4000000 in
theorem t_X5_look_g {sh : SH} {mi : MI} {mr : MR} (hB : ba_c sh mr) (nb : Nat) (hnb : mi 0 5 = nI nb) (hnb10 : nb ≤ 10) (b : Nat) (hb : b < nb) {q : Nat} (hq : mr 1 b = some q) (hk : bk_c sh mr q) (p2 p3 : Int32) (hv : ¬ (0 ≤ p2 ∧ p2 ≤ (mi q 5) - 1)) : EV none 2 0 0 mX5_look 0 (en_l mX5_look [pv_r 0, pv_i (nI b), pv_i p2, pv_i p3]) [] sh mi mr (ok_r sh mr (-2) mi) := by
  show EV none 2 0 0 mX5_look 0 [some (pv_r 0), some (pv_i (nI b)), some (pv_i p2), some (pv_i p3), none] [] sh mi mr _
  refine ev_aload_n dX5_look_0 rfl ?_
  refine ev_iload_n dX5_look_1 rfl ?_
  refine ev_v1q dX5_look_2 cv_X5_53 (hB.1 0 _ rfl) (Nat.le_of_ble_eq_true rfl) (by decide) (t_X5_bookAt_k hB nb hnb hnb10 b hb hq hk) ?_
  refine ev_astore dX5_look_5 (by decide) ?_
  refine ev_aload dX5_look_7 rfl ?_
  refine ev_ifnull_s (tgt := 21) dX5_look_9 rfl ?_
  refine ev_aload dX5_look_12 rfl ?_
  refine ev_iload_n dX5_look_14 rfl ?_
  refine ev_v1i dX5_look_15 cv_X5_68 hk.1 (Nat.le_of_ble_eq_true rfl) (by decide) (t_X0_hasGathering hk _) ?_
  refine ev_if_ne_f (tgt := 24) dX5_look_18 rfl (bi_f hv) ?_
  refine ev_bipush (v := (-2)) dX5_look_21 rfl ?_
  exact ev_ireturn (ty := .int) dX5_look_23 rfl rfl ⟨rfl, rfl, rfl, rfl⟩
set_option maxRecDepth 100000 in
set_option maxHeartbeats 4000000 in
theorem t_X5_look_k {sh : SH} {mi : MI} {mr : MR} (hB : ba_c sh mr) (nb : Nat) (hnb : mi 0 5 = nI nb) (hnb10 : nb ≤ 10) (b : Nat) (hb : b < nb) {q : Nat} (hq : mr 1 b = some q) (hk : bk_c sh mr q) (g : Nat) (hg : mi q 5 = nI g) (hg6 : g ≤ 6) (a : Nat) (ha : mi q 6 = nI a) (ha5 : a ≤ 5) (j : Nat) (hj : j < g) (p3 : Int32) : EV none 2 0 0 mX5_look 0 (en_l mX5_look [pv_r 0, pv_i (nI b), pv_i (nI j), pv_i p3]) [] sh mi mr (fun v_ sh_ mi_ mr_ => (((p3 &&& (((1 <<< ((mi (q + 1) j) &&& 31)) - 1) ^^^ (-1))) = 0) ∧ (¬ (mi q 6) = 5) ∧ (ok_r sh mr ((bc ((mi (q + 2) j) &&& (p3 ^^^ (-1)))) + (bc (p3 &&& ((mi (q + 2) j) ^^^ (-1))))) (up_2 (up_2 (up_2 (up_2 mi (q + 3) a ((mi (q + 3) a) + (bc ((mi (q + 2) j) &&& (p3 ^^^ (-1)))))) (q + 4) a (((up_2 mi (q + 3) a ((mi (q + 3) a) + (bc ((mi (q + 2) j) &&& (p3 ^^^ (-1)))))) (q + 4) a) + (bc (p3 &&& ((mi (q + 2) j) ^^^ (-1)))))) (q + 2) j p3) q 7 (((up_2 (up_2 (up_2 mi (q + 3) a ((mi (q + 3) a) + (bc ((mi (q + 2) j) &&& (p3 ^^^ (-1)))))) (q + 4) a (((up_2 mi (q + 3) a ((mi (q + 3) a) + (bc ((mi (q + 2) j) &&& (p3 ^^^ (-1)))))) (q + 4) a) + (bc (p3 &&& ((mi (q + 2) j) ^^^ (-1)))))) (q + 2) j p3) q 7) ||| (1 <<< ((nI j) &&& 31))))) v_ sh_ mi_ mr_) ∨ (((p3 &&& (((1 <<< ((mi (q + 1) j) &&& 31)) - 1) ^^^ (-1))) = 0) ∧ ((mi q 6) = 5) ∧ (ok_r sh mr (-4) mi) v_ sh_ mi_ mr_) ∨ ((¬ ((p3 &&& (((1 <<< ((mi (q + 1) j) &&& 31)) - 1) ^^^ (-1))) = 0)) ∧ (ok_r sh mr (-3) mi) v_ sh_ mi_ mr_)) := by
  show EV none 2 0 0 mX5_look 0 [some (pv_r 0), some (pv_i (nI b)), some (pv_i (nI j)), some (pv_i p3), none] [] sh mi mr _
  refine ev_aload_n dX5_look_0 rfl ?_
  refine ev_iload_n dX5_look_1 rfl ?_
  refine ev_v1q dX5_look_2 cv_X5_53 (hB.1 0 _ rfl) (Nat.le_of_ble_eq_true rfl) (by decide) (t_X5_bookAt_k hB nb hnb hnb10 b hb hq hk) ?_
  refine ev_astore dX5_look_5 (by decide) ?_
  refine ev_aload dX5_look_7 rfl ?_
  refine ev_ifnull_s (tgt := 21) dX5_look_9 rfl ?_
  refine ev_aload dX5_look_12 rfl ?_
  refine ev_iload_n dX5_look_14 rfl ?_
  refine ev_v1i dX5_look_15 cv_X5_68 hk.1 (Nat.le_of_ble_eq_true rfl) (by decide) (t_X0_hasGathering hk _) ?_
  refine ev_if_ne_t (tgt := 24) dX5_look_18 rfl (by rw [bi_1 (by rw [hg]; exact (i_cases (by omega)).mpr ⟨j, hj, rfl⟩)]; decide) ?_
  refine ev_aload dX5_look_24 rfl ?_
  refine ev_iload_n dX5_look_26 rfl ?_
  refine ev_iload_n dX5_look_27 rfl ?_
  refine ev_v2i dX5_look_28 cv_X5_72 hk.1 (Nat.le_of_ble_eq_true rfl) (by decide) (t_X0_hasLeaves hk j (by omega) _) ?_
  refine ev_ifb_ne (tgt := 37) dX5_look_31 rfl (fun h31 => ?_) (fun h31 => ?_)
  · refine ev_aload dX5_look_37 rfl ?_
    refine ev_geti dX5_look_39 fl_X5_61 rfl hk.1 ?_
    refine ev_iconst (v := 5) dX5_look_42 rfl ?_
    refine ev_icmp_ne (tgt := 49) dX5_look_43 rfl (fun h43 => ?_) (fun h43 => ?_)
    · refine ev_aload dX5_look_49 rfl ?_
      refine ev_iload_n dX5_look_51 rfl ?_
      refine ev_iload_n dX5_look_52 rfl ?_
      refine ev_v2i dX5_look_53 cv_X5_76 hk.1 (Nat.le_of_ble_eq_true rfl) (by decide) (t_X0_inspect hk j (by omega) _ a ha ha5 (by have := (not_congr (nl_eq ha (b := 5) rfl (by omega) (by decide))).mp h43; omega)) ?_
      exact ev_ireturn (ty := .int) dX5_look_56 rfl rfl (Or.inl ⟨h31, h43, rfl, rfl, rfl, rfl⟩)
    · refine ev_bipush (v := (-4)) dX5_look_46 rfl ?_
      exact ev_ireturn (ty := .int) dX5_look_48 rfl rfl (Or.inr (Or.inl ⟨h31, h43, rfl, rfl, rfl, rfl⟩))
  · refine ev_bipush (v := (-3)) dX5_look_34 rfl ?_
    exact ev_ireturn (ty := .int) dX5_look_36 rfl rfl (Or.inr (Or.inr ⟨h31, rfl, rfl, rfl, rfl⟩))
set_option maxRecDepth 100000 in
set_option maxHeartbeats 4000000 in
theorem t_X5_there_g {sh : SH} {mi : MI} {mr : MR} (hB : ba_c sh mr) (nb : Nat) (hnb : mi 0 5 = nI nb) (hnb10 : nb ≤ 10) (b : Nat) (hb : b < nb) {q : Nat} (hq : mr 1 b = some q) (hk : bk_c sh mr q) (p2 : Int32) (hv : ¬ (0 ≤ p2 ∧ p2 ≤ (mi q 5) - 1)) : EV none 2 0 0 mX5_there 0 (en_l mX5_there [pv_r 0, pv_i (nI b), pv_i p2]) [] sh mi mr (ok_r sh mr (-2) mi) := by
  show EV none 2 0 0 mX5_there 0 [some (pv_r 0), some (pv_i (nI b)), some (pv_i p2), none] [] sh mi mr _
  refine ev_aload_n dX5_there_0 rfl ?_
  refine ev_iload_n dX5_there_1 rfl ?_
  refine ev_v1q dX5_there_2 cv_X5_53 (hB.1 0 _ rfl) (Nat.le_of_ble_eq_true rfl) (by decide) (t_X5_bookAt_k hB nb hnb hnb10 b hb hq hk) ?_
  refine ev_astore_n dX5_there_5 (by decide) ?_
  refine ev_aload_n dX5_there_6 rfl ?_
  refine ev_ifnull_s (tgt := 18) dX5_there_7 rfl ?_
  refine ev_aload_n dX5_there_10 rfl ?_
  refine ev_iload_n dX5_there_11 rfl ?_
  refine ev_v1i dX5_there_12 cv_X5_68 hk.1 (Nat.le_of_ble_eq_true rfl) (by decide) (t_X0_hasGathering hk _) ?_
  refine ev_if_ne_f (tgt := 21) dX5_there_15 rfl (bi_f hv) ?_
  refine ev_bipush (v := (-2)) dX5_there_18 rfl ?_
  exact ev_ireturn (ty := .int) dX5_there_20 rfl rfl ⟨rfl, rfl, rfl, rfl⟩
set_option maxRecDepth 100000 in
set_option maxHeartbeats 4000000 in
theorem t_X5_there_k {sh : SH} {mi : MI} {mr : MR} (hB : ba_c sh mr) (nb : Nat) (hnb : mi 0 5 = nI nb) (hnb10 : nb ≤ 10) (b : Nat) (hb : b < nb) {q : Nat} (hq : mr 1 b = some q) (hk : bk_c sh mr q) (g : Nat) (hg : mi q 5 = nI g) (hg6 : g ≤ 6) (j : Nat) (hj : j < g) : EV none 2 0 0 mX5_there 0 (en_l mX5_there [pv_r 0, pv_i (nI b), pv_i (nI j)]) [] sh mi mr (ok_r sh mr (mi (q + 2) j) mi) := by
  show EV none 2 0 0 mX5_there 0 [some (pv_r 0), some (pv_i (nI b)), some (pv_i (nI j)), none] [] sh mi mr _
  refine ev_aload_n dX5_there_0 rfl ?_
  refine ev_iload_n dX5_there_1 rfl ?_
  refine ev_v1q dX5_there_2 cv_X5_53 (hB.1 0 _ rfl) (Nat.le_of_ble_eq_true rfl) (by decide) (t_X5_bookAt_k hB nb hnb hnb10 b hb hq hk) ?_
  refine ev_astore_n dX5_there_5 (by decide) ?_
  refine ev_aload_n dX5_there_6 rfl ?_
  refine ev_ifnull_s (tgt := 18) dX5_there_7 rfl ?_
  refine ev_aload_n dX5_there_10 rfl ?_
  refine ev_iload_n dX5_there_11 rfl ?_
  refine ev_v1i dX5_there_12 cv_X5_68 hk.1 (Nat.le_of_ble_eq_true rfl) (by decide) (t_X0_hasGathering hk _) ?_
  refine ev_if_ne_t (tgt := 21) dX5_there_15 rfl (by rw [bi_1 (by rw [hg]; exact (i_cases (by omega)).mpr ⟨j, hj, rfl⟩)]; decide) ?_
  refine ev_aload_n dX5_there_21 rfl ?_
  refine ev_getq dX5_there_22 fl_X5_101 rfl hk.1 hk.2.1.2.1 ?_
  refine ev_iload_n dX5_there_25 rfl ?_
  refine ev_iald dX5_there_26 hk.2.2.2.1 (j := j) rfl (by omega) (by decide) ?_
  exact ev_ireturn (ty := .int) dX5_there_27 rfl rfl ⟨rfl, rfl, rfl, rfl⟩
set_option maxRecDepth 100000 in
set_option maxHeartbeats 4000000 in
theorem t_X1_notePass_d {sh : SH} {mi : MI} {mr : MR} (hB : ba_c sh mr) (p1 p2 : Int32) (m : Nat) (hm : mi 22 1 = nI m) (hm50 : m < 50) : EV none 0 0 0 mX1_notePass 0 (en_l mX1_notePass [pv_r 22, pv_i p1, pv_i p2]) [] sh mi mr (ok_n sh mr (up_2 (up_2 (up_2 mi 27 m p1) 28 m p2) 22 1 (((up_2 (up_2 mi 27 m p1) 28 m p2) 22 1) + 1))) := by
  show EV none 0 0 0 mX1_notePass 0 [some (pv_r 22), some (pv_i p1), some (pv_i p2)] [] sh mi mr _
  refine ev_aload_n dX1_notePass_0 rfl ?_
  refine ev_geti dX1_notePass_1 fl_X1_15 rfl (hB.1 22 _ rfl) ?_
  refine ev_bipush (v := 50) dX1_notePass_4 rfl ?_
  refine ev_icmp_lt_t (tgt := 10) dX1_notePass_6 rfl (by rw [hm]; exact (nI_ltI (b := 50) (by omega) (by decide)).mpr hm50) ?_
  refine ev_aload_n dX1_notePass_10 rfl ?_
  refine ev_getq dX1_notePass_11 fl_X1_31 rfl (hB.1 22 _ rfl) (hB.2 22 6 _ rfl) ?_
  refine ev_aload_n dX1_notePass_14 rfl ?_
  refine ev_geti dX1_notePass_15 fl_X1_15 rfl (hB.1 22 _ rfl) ?_
  refine ev_iload_n dX1_notePass_18 rfl ?_
  refine ev_iast dX1_notePass_19 (hB.1 27 _ rfl) (j := m) (by simp [up_2, pk_mul, nI_add, n_5, n_6, n_12, n_144, hm]) (by omega) (by decide) ?_
  refine ev_aload_n dX1_notePass_20 rfl ?_
  refine ev_getq dX1_notePass_21 fl_X1_34 rfl (hB.1 22 _ rfl) (hB.2 22 7 _ rfl) ?_
  refine ev_aload_n dX1_notePass_24 rfl ?_
  refine ev_geti dX1_notePass_25 fl_X1_15 rfl (hB.1 22 _ rfl) ?_
  refine ev_iload_n dX1_notePass_28 rfl ?_
  refine ev_iast dX1_notePass_29 (hB.1 28 _ rfl) (j := m) (by simp [up_2, pk_mul, nI_add, n_5, n_6, n_12, n_144, hm]) (by omega) (by decide) ?_
  refine ev_aload_n dX1_notePass_30 rfl ?_
  refine ev_dup dX1_notePass_31 ?_
  refine ev_geti dX1_notePass_32 fl_X1_15 rfl (hB.1 22 _ rfl) ?_
  refine ev_iconst (v := 1) dX1_notePass_35 rfl ?_
  refine ev_iadd dX1_notePass_36 ?_
  refine ev_puti dX1_notePass_37 fl_X1_15 rfl rfl (hB.1 22 _ rfl) ?_
  exact ev_return dX1_notePass_40 rfl ⟨rfl, rfl, rfl, rfl⟩
set_option maxRecDepth 100000 in
set_option maxHeartbeats 4000000 in
theorem t_X5_pass_k {sh : SH} {mi : MI} {mr : MR} (hB : ba_c sh mr) (nb : Nat) (hnb : mi 0 5 = nI nb) (hnb10 : nb ≤ 10) (b : Nat) (hb : b < nb) {q : Nat} (hq : mr 1 b = some q) (hk : bk_c sh mr q) (m : Nat) (hm : mi 22 1 = nI m) (hm50 : m < 50) : EV none 2 0 0 mX5_pass 0 (en_l mX5_pass [pv_r 0, pv_i (nI b)]) [] sh mi mr (fun v_ sh_ mi_ mr_ => ((¬ mi q 6 = 5 ∧ ¬ mi q 5 ≤ 0 ∧ mi q 7 = (1 <<< (mi q 5 &&& 31)) - 1) ∧ (ok_r sh mr ((up_2 (up_2 (up_2 (up_2 (up_2 mi 27 m (mi q 6)) 28 m (mi 0 7)) 22 1 (((up_2 (up_2 mi 27 m (mi q 6)) 28 m (mi 0 7)) 22 1) + 1)) q 6 (((up_2 (up_2 (up_2 mi 27 m (mi q 6)) 28 m (mi 0 7)) 22 1 (((up_2 (up_2 mi 27 m (mi q 6)) 28 m (mi 0 7)) 22 1) + 1)) q 6) + 1)) q 7 0) q 6) (up_2 (up_2 (up_2 (up_2 (up_2 mi 27 m (mi q 6)) 28 m (mi 0 7)) 22 1 (((up_2 (up_2 mi 27 m (mi q 6)) 28 m (mi 0 7)) 22 1) + 1)) q 6 (((up_2 (up_2 (up_2 mi 27 m (mi q 6)) 28 m (mi 0 7)) 22 1 (((up_2 (up_2 mi 27 m (mi q 6)) 28 m (mi 0 7)) 22 1) + 1)) q 6) + 1)) q 7 0)) v_ sh_ mi_ mr_) ∨ ((¬ (¬ mi q 6 = 5 ∧ ¬ mi q 5 ≤ 0 ∧ mi q 7 = (1 <<< (mi q 5 &&& 31)) - 1)) ∧ (ok_r sh mr (-4) mi) v_ sh_ mi_ mr_)) := by
  show EV none 2 0 0 mX5_pass 0 [some (pv_r 0), some (pv_i (nI b)), none] [] sh mi mr _
  refine ev_aload_n dX5_pass_0 rfl ?_
  refine ev_iload_n dX5_pass_1 rfl ?_
  refine ev_v1q dX5_pass_2 cv_X5_53 (hB.1 0 _ rfl) (Nat.le_of_ble_eq_true rfl) (by decide) (t_X5_bookAt_k hB nb hnb hnb10 b hb hq hk) ?_
  refine ev_astore_n dX5_pass_5 (by decide) ?_
  refine ev_aload_n dX5_pass_6 rfl ?_
  refine ev_ifnonnull_s (tgt := 13) dX5_pass_7 rfl ?_
  refine ev_aload_n dX5_pass_13 rfl ?_
  refine ev_v0i dX5_pass_14 cv_X5_80 hk.1 (Nat.le_of_ble_eq_true rfl) (by decide) (t_X0_mayMoveOn hk) ?_
  refine ev_ifb_ne (tgt := 23) dX5_pass_17 rfl (fun h17 => ?_) (fun h17 => ?_)
  · refine ev_aload_n dX5_pass_23 rfl ?_
    refine ev_getq dX5_pass_24 fl_X5_38 rfl (hB.1 0 _ rfl) (hB.2 0 4 _ rfl) ?_
    refine ev_aload_n dX5_pass_27 rfl ?_
    refine ev_geti dX5_pass_28 fl_X5_61 rfl hk.1 ?_
    refine ev_aload_n dX5_pass_31 rfl ?_
    refine ev_geti dX5_pass_32 fl_X5_49 rfl (hB.1 0 _ rfl) ?_
    refine ev_v2n dX5_pass_35 cv_X5_84 (hB.1 22 _ rfl) (Nat.le_of_ble_eq_true rfl) (by decide) (t_X1_notePass_d hB _ _ m hm hm50) ?_
    refine ev_aload_n dX5_pass_38 rfl ?_
    refine ev_v0i dX5_pass_39 cv_X5_88 hk.1 (Nat.le_of_ble_eq_true rfl) (by decide) (t_X0_moveOn hk) ?_
    exact ev_ireturn (ty := .int) dX5_pass_42 rfl rfl (Or.inl ⟨h17, rfl, rfl, rfl, rfl⟩)
  · refine ev_bipush (v := (-4)) dX5_pass_20 rfl ?_
    exact ev_ireturn (ty := .int) dX5_pass_22 rfl rfl (Or.inr ⟨h17, rfl, rfl, rfl, rfl⟩)
set_option maxRecDepth 100000 in
set_option maxHeartbeats 4000000 in
theorem t_X5_told_k {sh : SH} {mi : MI} {mr : MR} (hB : ba_c sh mr) (nb : Nat) (hnb : mi 0 5 = nI nb) (hnb10 : nb ≤ 10) (b : Nat) (hb : b < nb) {q : Nat} (hq : mr 1 b = some q) (hk : bk_c sh mr q) (g : Nat) (hg : mi q 5 = nI g) (hg6 : g ≤ 6) (p2 : Int32) : EV none 2 0 0 mX5_told 0 (en_l mX5_told [pv_r 0, pv_i (nI b), pv_i p2]) [] sh mi mr (fun v_ sh_ mi_ mr_ => ((p2 = 0) ∧ (ok_r sh mr (mi q 6) mi) v_ sh_ mi_ mr_) ∨ ((¬ p2 = 0) ∧ (p2 = 1) ∧ (ok_r sh mr (mi q 5) mi) v_ sh_ mi_ mr_) ∨ ((¬ p2 = 0) ∧ (¬ p2 = 1) ∧ (p2 = 2) ∧ (ok_r sh mr (sm_c (fun k => bc (mi (q + 2) k)) g) mi) v_ sh_ mi_ mr_) ∨ ((¬ p2 = 0) ∧ (¬ p2 = 1) ∧ (¬ p2 = 2) ∧ (p2 = 3) ∧ (ok_r sh mr (sm_c (mi (q + 1)) g) mi) v_ sh_ mi_ mr_) ∨ ((¬ p2 = 0) ∧ (¬ p2 = 1) ∧ (¬ p2 = 2) ∧ (¬ p2 = 3) ∧ (ok_r sh mr (-3) mi) v_ sh_ mi_ mr_)) := by
  show EV none 2 0 0 mX5_told 0 [some (pv_r 0), some (pv_i (nI b)), some (pv_i p2), none] [] sh mi mr _
  refine ev_aload_n dX5_told_0 rfl ?_
  refine ev_iload_n dX5_told_1 rfl ?_
  refine ev_v1q dX5_told_2 cv_X5_53 (hB.1 0 _ rfl) (Nat.le_of_ble_eq_true rfl) (by decide) (t_X5_bookAt_k hB nb hnb hnb10 b hb hq hk) ?_
  refine ev_astore_n dX5_told_5 (by decide) ?_
  refine ev_aload_n dX5_told_6 rfl ?_
  refine ev_ifnonnull_s (tgt := 13) dX5_told_7 rfl ?_
  refine ev_iload_n dX5_told_13 rfl ?_
  by_cases h14_0 : p2 = 0
  · refine ev_tableIn (tgt := 44) dX5_told_14 (by rw [h14_0]; decide) (by rw [h14_0]; decide) (by rw [h14_0] <;> rfl) rfl ?_
    refine ev_aload_n dX5_told_44 rfl ?_
    refine ev_geti dX5_told_45 fl_X5_61 rfl hk.1 ?_
    exact ev_ireturn (ty := .int) dX5_told_48 rfl rfl (Or.inl ⟨h14_0, rfl, rfl, rfl, rfl⟩)
  by_cases h14_1 : p2 = 1
  · refine ev_tableIn (tgt := 49) dX5_told_14 (by rw [h14_1]; decide) (by rw [h14_1]; decide) (by rw [h14_1] <;> rfl) rfl ?_
    refine ev_aload_n dX5_told_49 rfl ?_
    refine ev_geti dX5_told_50 fl_X5_92 rfl hk.1 ?_
    exact ev_ireturn (ty := .int) dX5_told_53 rfl rfl (Or.inr (Or.inl ⟨h14_0, h14_1, rfl, rfl, rfl, rfl⟩))
  by_cases h14_2 : p2 = 2
  · refine ev_tableIn (tgt := 54) dX5_told_14 (by rw [h14_2]; decide) (by rw [h14_2]; decide) (by rw [h14_2] <;> rfl) rfl ?_
    refine ev_aload_n dX5_told_54 rfl ?_
    refine ev_v0i dX5_told_55 cv_X5_95 hk.1 (Nat.le_of_ble_eq_true rfl) (by decide) (t_X0_leavesBelieved hk g hg hg6) ?_
    exact ev_ireturn (ty := .int) dX5_told_58 rfl rfl (Or.inr (Or.inr (Or.inl ⟨h14_0, h14_1, h14_2, rfl, rfl, rfl, rfl⟩)))
  by_cases h14_3 : p2 = 3
  · refine ev_tableIn (tgt := 59) dX5_told_14 (by rw [h14_3]; decide) (by rw [h14_3]; decide) (by rw [h14_3] <;> rfl) rfl ?_
    refine ev_aload_n dX5_told_59 rfl ?_
    refine ev_v0i dX5_told_60 cv_X5_98 hk.1 (Nat.le_of_ble_eq_true rfl) (by decide) (t_X0_leavesInAll hk g hg hg6) ?_
    exact ev_ireturn (ty := .int) dX5_told_63 rfl rfl (Or.inr (Or.inr (Or.inr (Or.inl ⟨h14_0, h14_1, h14_2, h14_3, rfl, rfl, rfl, rfl⟩))))
  refine ev_tableOut (tgt := 64) dX5_told_14 (by have e0 := lv_neT (a := 0) h14_0 (by decide); have e1 := lv_neT (a := 1) h14_1 (by decide); have e2 := lv_neT (a := 2) h14_2 (by decide); have e3 := lv_neT (a := 3) h14_3 (by decide); omega) rfl ?_
  refine ev_bipush (v := (-3)) dX5_told_64 rfl ?_
  exact ev_ireturn (ty := .int) dX5_told_66 rfl rfl (Or.inr (Or.inr (Or.inr (Or.inr ⟨h14_0, h14_1, h14_2, h14_3, rfl, rfl, rfl, rfl⟩))))
set_option maxRecDepth 100000 in
set_option maxHeartbeats 4000000 in
theorem t_X5_gone_b {sh : SH} {mi : MI} {mr : MR} (hB : ba_c sh mr) (nb : Nat) (hnb : mi 0 5 = nI nb) (hnb10 : nb ≤ 10) (b : Nat) (hb : b < nb) {q : Nat} (hq : mr 1 b = some q) (hk : bk_c sh mr q) (p2 p3 : Int32) (hv : ¬ (0 ≤ p2 ∧ p2 ≤ 4)) : EV none 2 0 0 mX5_gone 0 (en_l mX5_gone [pv_r 0, pv_i (nI b), pv_i p2, pv_i p3]) [] sh mi mr (ok_r sh mr (-2) mi) := by
  show EV none 2 0 0 mX5_gone 0 [some (pv_r 0), some (pv_i (nI b)), some (pv_i p2), some (pv_i p3), none] [] sh mi mr _
  refine ev_aload_n dX5_gone_0 rfl ?_
  refine ev_iload_n dX5_gone_1 rfl ?_
  refine ev_v1q dX5_gone_2 cv_X5_53 (hB.1 0 _ rfl) (Nat.le_of_ble_eq_true rfl) (by decide) (t_X5_bookAt_k hB nb hnb hnb10 b hb hq hk) ?_
  refine ev_astore dX5_gone_5 (by decide) ?_
  refine ev_aload dX5_gone_7 rfl ?_
  refine ev_ifnull_s (tgt := 19) dX5_gone_9 rfl ?_
  refine ev_iload_n dX5_gone_12 rfl ?_
  refine ev_s1i dX5_gone_13 cs_X5_105 (Nat.le_of_ble_eq_true rfl) (by decide) (t_X5_isBench _) ?_
  refine ev_if_ne_f (tgt := 22) dX5_gone_16 rfl (bi_f hv) ?_
  refine ev_bipush (v := (-2)) dX5_gone_19 rfl ?_
  exact ev_ireturn (ty := .int) dX5_gone_21 rfl rfl ⟨rfl, rfl, rfl, rfl⟩
set_option maxRecDepth 100000 in
set_option maxHeartbeats 4000000 in
theorem t_X5_gone_k {sh : SH} {mi : MI} {mr : MR} (hB : ba_c sh mr) (nb : Nat) (hnb : mi 0 5 = nI nb) (hnb10 : nb ≤ 10) (b : Nat) (hb : b < nb) {q : Nat} (hq : mr 1 b = some q) (hk : bk_c sh mr q) (k : Nat) (hk5 : k < 5) (p3 : Int32) : EV none 2 0 0 mX5_gone 0 (en_l mX5_gone [pv_r 0, pv_i (nI b), pv_i (nI k), pv_i p3]) [] sh mi mr (fun v_ sh_ mi_ mr_ => ((p3 = 0) ∧ (ok_r sh mr (mi (q + 3) k) mi) v_ sh_ mi_ mr_) ∨ ((¬ p3 = 0) ∧ (p3 = 1) ∧ (ok_r sh mr (mi (q + 4) k) mi) v_ sh_ mi_ mr_) ∨ ((¬ p3 = 0) ∧ (¬ p3 = 1) ∧ (ok_r sh mr (-3) mi) v_ sh_ mi_ mr_)) := by
  show EV none 2 0 0 mX5_gone 0 [some (pv_r 0), some (pv_i (nI b)), some (pv_i (nI k)), some (pv_i p3), none] [] sh mi mr _
  refine ev_aload_n dX5_gone_0 rfl ?_
  refine ev_iload_n dX5_gone_1 rfl ?_
  refine ev_v1q dX5_gone_2 cv_X5_53 (hB.1 0 _ rfl) (Nat.le_of_ble_eq_true rfl) (by decide) (t_X5_bookAt_k hB nb hnb hnb10 b hb hq hk) ?_
  refine ev_astore dX5_gone_5 (by decide) ?_
  refine ev_aload dX5_gone_7 rfl ?_
  refine ev_ifnull_s (tgt := 19) dX5_gone_9 rfl ?_
  refine ev_iload_n dX5_gone_12 rfl ?_
  refine ev_s1i dX5_gone_13 cs_X5_105 (Nat.le_of_ble_eq_true rfl) (by decide) (t_X5_isBench _) ?_
  refine ev_if_ne_t (tgt := 22) dX5_gone_16 rfl (by rw [bi_1 ((i_in 4 (n := 4) rfl (by decide)).mpr ⟨k, by omega, rfl⟩)]; decide) ?_
  refine ev_iload_n dX5_gone_22 rfl ?_
  by_cases h23_0 : p3 = 0
  · refine ev_lookup (tgt := 48) dX5_gone_23 (by decide) (by rw [h23_0] <;> rfl) rfl ?_
    refine ev_aload dX5_gone_48 rfl ?_
    refine ev_getq dX5_gone_50 fl_X5_108 rfl hk.1 hk.2.1.2.2.1 ?_
    refine ev_iload_n dX5_gone_53 rfl ?_
    refine ev_iald dX5_gone_54 hk.2.2.2.2.1 (j := k) rfl (by omega) (by decide) ?_
    exact ev_ireturn (ty := .int) dX5_gone_55 rfl rfl (Or.inl ⟨h23_0, rfl, rfl, rfl, rfl⟩)
  by_cases h23_1 : p3 = 1
  · refine ev_lookup (tgt := 56) dX5_gone_23 (by decide) (by rw [h23_1] <;> rfl) rfl ?_
    refine ev_aload dX5_gone_56 rfl ?_
    refine ev_getq dX5_gone_58 fl_X5_111 rfl hk.1 hk.2.1.2.2.2.1 ?_
    refine ev_iload_n dX5_gone_61 rfl ?_
    refine ev_iald dX5_gone_62 hk.2.2.2.2.2.1 (j := k) rfl (by omega) (by decide) ?_
    exact ev_ireturn (ty := .int) dX5_gone_63 rfl rfl (Or.inr (Or.inl ⟨h23_0, h23_1, rfl, rfl, rfl, rfl⟩))
  refine ev_lookup (tgt := 64) dX5_gone_23 (by decide) (by rw [lv_osw h23_0 (by decide), lv_osw h23_1 (by decide)] <;> rfl) rfl ?_
  refine ev_bipush (v := (-3)) dX5_gone_64 rfl ?_
  exact ev_ireturn (ty := .int) dX5_gone_66 rfl rfl (Or.inr (Or.inr ⟨h23_0, h23_1, rfl, rfl, rfl, rfl⟩))
set_option maxRecDepth 100000 in
set_option maxHeartbeats 4000000 in
theorem t_X5_hours_b {sh : SH} {mi : MI} {mr : MR} (hB : ba_c sh mr) (nb : Nat) (hnb : mi 0 5 = nI nb) (hnb10 : nb ≤ 10) (b : Nat) (hb : b < nb) {q : Nat} (hq : mr 1 b = some q) (hk : bk_c sh mr q) (p2 p3 : Int32) (hv : ¬ (0 ≤ p2 ∧ p2 ≤ 4)) : EV none 2 0 0 mX5_hours 0 (en_l mX5_hours [pv_r 0, pv_i (nI b), pv_i p2, pv_i p3]) [] sh mi mr (ok_r sh mr (-2) mi) := by
  show EV none 2 0 0 mX5_hours 0 [some (pv_r 0), some (pv_i (nI b)), some (pv_i p2), some (pv_i p3), none] [] sh mi mr _
  refine ev_aload_n dX5_hours_0 rfl ?_
  refine ev_iload_n dX5_hours_1 rfl ?_
  refine ev_v1q dX5_hours_2 cv_X5_53 (hB.1 0 _ rfl) (Nat.le_of_ble_eq_true rfl) (by decide) (t_X5_bookAt_k hB nb hnb hnb10 b hb hq hk) ?_
  refine ev_astore dX5_hours_5 (by decide) ?_
  refine ev_aload dX5_hours_7 rfl ?_
  refine ev_ifnull_s (tgt := 19) dX5_hours_9 rfl ?_
  refine ev_iload_n dX5_hours_12 rfl ?_
  refine ev_s1i dX5_hours_13 cs_X5_105 (Nat.le_of_ble_eq_true rfl) (by decide) (t_X5_isBench _) ?_
  refine ev_if_ne_f (tgt := 22) dX5_hours_16 rfl (bi_f hv) ?_
  refine ev_bipush (v := (-2)) dX5_hours_19 rfl ?_
  exact ev_ireturn (ty := .int) dX5_hours_21 rfl rfl ⟨rfl, rfl, rfl, rfl⟩
set_option maxRecDepth 100000 in
set_option maxHeartbeats 4000000 in
theorem t_X5_hours_k {sh : SH} {mi : MI} {mr : MR} (hB : ba_c sh mr) (nb : Nat) (hnb : mi 0 5 = nI nb) (hnb10 : nb ≤ 10) (b : Nat) (hb : b < nb) {q : Nat} (hq : mr 1 b = some q) (hk : bk_c sh mr q) (k : Nat) (hk5 : k < 5) (p3 : Int32) : EV none 2 0 0 mX5_hours 0 (en_l mX5_hours [pv_r 0, pv_i (nI b), pv_i (nI k), pv_i p3]) [] sh mi mr (fun v_ sh_ mi_ mr_ => ((0 ≤ p3 ∧ p3 ≤ 50) ∧ (ok_r sh mr 1 (up_2 mi (q + 5) k p3)) v_ sh_ mi_ mr_) ∨ ((¬ (0 ≤ p3 ∧ p3 ≤ 50)) ∧ (ok_r sh mr (-3) mi) v_ sh_ mi_ mr_)) := by
  show EV none 2 0 0 mX5_hours 0 [some (pv_r 0), some (pv_i (nI b)), some (pv_i (nI k)), some (pv_i p3), none] [] sh mi mr _
  refine ev_aload_n dX5_hours_0 rfl ?_
  refine ev_iload_n dX5_hours_1 rfl ?_
  refine ev_v1q dX5_hours_2 cv_X5_53 (hB.1 0 _ rfl) (Nat.le_of_ble_eq_true rfl) (by decide) (t_X5_bookAt_k hB nb hnb hnb10 b hb hq hk) ?_
  refine ev_astore dX5_hours_5 (by decide) ?_
  refine ev_aload dX5_hours_7 rfl ?_
  refine ev_ifnull_s (tgt := 19) dX5_hours_9 rfl ?_
  refine ev_iload_n dX5_hours_12 rfl ?_
  refine ev_s1i dX5_hours_13 cs_X5_105 (Nat.le_of_ble_eq_true rfl) (by decide) (t_X5_isBench _) ?_
  refine ev_if_ne_t (tgt := 22) dX5_hours_16 rfl (by rw [bi_1 ((i_in 4 (n := 4) rfl (by decide)).mpr ⟨k, by omega, rfl⟩)]; decide) ?_
  refine ev_iload_n dX5_hours_22 rfl ?_
  refine ev_iconst (v := 0) dX5_hours_23 rfl ?_
  refine ev_bipush (v := 50) dX5_hours_24 rfl ?_
  refine ev_s3i dX5_hours_26 cs_X5_57 (Nat.le_of_ble_eq_true rfl) (by decide) (t_X5_within _ _ _) ?_
  refine ev_ifb_ne (tgt := 35) dX5_hours_29 rfl (fun h29 => ?_) (fun h29 => ?_)
  · refine ev_aload dX5_hours_35 rfl ?_
    refine ev_getq dX5_hours_37 fl_X5_114 rfl hk.1 hk.2.1.2.2.2.2 ?_
    refine ev_iload_n dX5_hours_40 rfl ?_
    refine ev_iload_n dX5_hours_41 rfl ?_
    refine ev_iast dX5_hours_42 hk.2.2.2.2.2.2 (j := k) rfl (by omega) (by decide) ?_
    refine ev_iconst (v := 1) dX5_hours_43 rfl ?_
    exact ev_ireturn (ty := .int) dX5_hours_44 rfl rfl (Or.inl ⟨h29, rfl, rfl, rfl, rfl⟩)
  · refine ev_bipush (v := (-3)) dX5_hours_32 rfl ?_
    exact ev_ireturn (ty := .int) dX5_hours_34 rfl rfl (Or.inr ⟨h29, rfl, rfl, rfl, rfl⟩)
set_option maxRecDepth 100000 in
set_option maxHeartbeats 4000000 in
theorem t_X5_promise_k {sh : SH} {mi : MI} {mr : MR} (hB : ba_c sh mr) (nb : Nat) (hnb : mi 0 5 = nI nb) (hnb10 : nb ≤ 10) (b : Nat) (hb : b < nb) {q : Nat} (hq : mr 1 b = some q) (hk : bk_c sh mr q) (p2 p3 p4 : Int32) : EV none 2 0 0 mX5_promise 0 (en_l mX5_promise [pv_r 0, pv_i (nI b), pv_i p2, pv_i p3, pv_i p4]) [] sh mi mr (fun v_ sh_ mi_ mr_ => ((¬ (0 ≤ p2 ∧ p2 ≤ 30)) ∧ (ok_r sh mr (-3) mi) v_ sh_ mi_ mr_) ∨ ((0 ≤ p2 ∧ p2 ≤ 30) ∧ (¬ (0 ≤ p3 ∧ p3 ≤ 2000)) ∧ (ok_r sh mr (-3) mi) v_ sh_ mi_ mr_) ∨ ((0 ≤ p2 ∧ p2 ≤ 30) ∧ (0 ≤ p3 ∧ p3 ≤ 2000) ∧ (0 ≤ p4 ∧ p4 ≤ 100) ∧ (ok_r sh mr 1 (up_2 (up_2 (up_2 mi q 8 p2) q 9 p3) q 10 p4)) v_ sh_ mi_ mr_) ∨ ((0 ≤ p2 ∧ p2 ≤ 30) ∧ (0 ≤ p3 ∧ p3 ≤ 2000) ∧ (¬ (0 ≤ p4 ∧ p4 ≤ 100)) ∧ (ok_r sh mr (-3) mi) v_ sh_ mi_ mr_)) := by
  show EV none 2 0 0 mX5_promise 0 [some (pv_r 0), some (pv_i (nI b)), some (pv_i p2), some (pv_i p3), some (pv_i p4), none] [] sh mi mr _
  refine ev_aload_n dX5_promise_0 rfl ?_
  refine ev_iload_n dX5_promise_1 rfl ?_
  refine ev_v1q dX5_promise_2 cv_X5_53 (hB.1 0 _ rfl) (Nat.le_of_ble_eq_true rfl) (by decide) (t_X5_bookAt_k hB nb hnb hnb10 b hb hq hk) ?_
  refine ev_astore dX5_promise_5 (by decide) ?_
  refine ev_aload dX5_promise_7 rfl ?_
  refine ev_ifnonnull_s (tgt := 15) dX5_promise_9 rfl ?_
  refine ev_iload_n dX5_promise_15 rfl ?_
  refine ev_iconst (v := 0) dX5_promise_16 rfl ?_
  refine ev_bipush (v := 30) dX5_promise_17 rfl ?_
  refine ev_s3i dX5_promise_19 cs_X5_57 (Nat.le_of_ble_eq_true rfl) (by decide) (t_X5_within _ _ _) ?_
  refine ev_ifb_eq (tgt := 47) dX5_promise_22 rfl (fun h22 => ?_) (fun h22 => ?_)
  · refine ev_bipush (v := (-3)) dX5_promise_47 rfl ?_
    exact ev_ireturn (ty := .int) dX5_promise_49 rfl rfl (Or.inl ⟨h22, rfl, rfl, rfl, rfl⟩)
  · refine ev_iload_n dX5_promise_25 rfl ?_
    refine ev_iconst (v := 0) dX5_promise_26 rfl ?_
    refine ev_sipush (v := 2000) dX5_promise_27 rfl ?_
    refine ev_s3i dX5_promise_30 cs_X5_57 (Nat.le_of_ble_eq_true rfl) (by decide) (t_X5_within _ _ _) ?_
    refine ev_ifb_eq (tgt := 47) dX5_promise_33 rfl (fun h33 => ?_) (fun h33 => ?_)
    · refine ev_bipush (v := (-3)) dX5_promise_47 rfl ?_
      exact ev_ireturn (ty := .int) dX5_promise_49 rfl rfl (Or.inr (Or.inl ⟨h22, h33, rfl, rfl, rfl, rfl⟩))
    · refine ev_iload dX5_promise_36 rfl ?_
      refine ev_iconst (v := 0) dX5_promise_38 rfl ?_
      refine ev_bipush (v := 100) dX5_promise_39 rfl ?_
      refine ev_s3i dX5_promise_41 cs_X5_57 (Nat.le_of_ble_eq_true rfl) (by decide) (t_X5_within _ _ _) ?_
      refine ev_ifb_ne (tgt := 50) dX5_promise_44 rfl (fun h44 => ?_) (fun h44 => ?_)
      · refine ev_aload dX5_promise_50 rfl ?_
        refine ev_iload_n dX5_promise_52 rfl ?_
        refine ev_puti dX5_promise_53 fl_X5_117 rfl rfl hk.1 ?_
        refine ev_aload dX5_promise_56 rfl ?_
        refine ev_iload_n dX5_promise_58 rfl ?_
        refine ev_puti dX5_promise_59 fl_X5_120 rfl rfl hk.1 ?_
        refine ev_aload dX5_promise_62 rfl ?_
        refine ev_iload dX5_promise_64 rfl ?_
        refine ev_puti dX5_promise_66 fl_X5_123 rfl rfl hk.1 ?_
        refine ev_iconst (v := 1) dX5_promise_69 rfl ?_
        exact ev_ireturn (ty := .int) dX5_promise_70 rfl rfl (Or.inr (Or.inr (Or.inl ⟨h22, h33, h44, rfl, rfl, rfl, rfl⟩)))
      · refine ev_bipush (v := (-3)) dX5_promise_47 rfl ?_
        exact ev_ireturn (ty := .int) dX5_promise_49 rfl rfl (Or.inr (Or.inr (Or.inr ⟨h22, h33, h44, rfl, rfl, rfl, rfl⟩)))
end
section
/-- how many of the lowest i bits -/
def mn (x : Int32) : Nat → Int32
  | 0 => 0
  | i + 1 => mn x i + ((x >>> (nI i &&& 31)) &&& 1)
set_option maxRecDepth 100000 in
set_option maxHeartbeats 4000000 in
theorem lp_X6_many {sh : SH} {mi : MI} {mr : MR} (x : Int32) : ∀ i, i ≤ 16 → EV none 0 0 0 mX6_many 4 [some (pv_i x), some (pv_i (mn x i)), some (pv_i (nI i))] [] sh mi mr (ok_r sh mr (mn x 16) mi) := by
  refine lp_i 16 (fun i hi ih => ?_)
  refine ev_iload_n dX6_many_4 rfl ?_
  refine ev_bipush (v := 16) dX6_many_5 rfl ?_
  refine ev_icmp_ge (tgt := 24) dX6_many_7 rfl (fun h7 => ?_) (fun h7 => ?_)
  · have hin : i = 16 := by have := (nl_le (x := 16) (a := 16) rfl (b := i) rfl (by omega) (by omega)).mp h7; omega
    subst hin
    refine ev_iload_n dX6_many_24 rfl ?_
    exact ev_ireturn (ty := .int) dX6_many_25 rfl rfl ⟨rfl, rfl, rfl, rfl⟩
  · have hlt : i < 16 := by have := (not_congr (nl_le (x := 16) (a := 16) rfl (b := i) rfl (by omega) (by omega))).mp h7; omega
    refine ev_iload_n dX6_many_10 rfl ?_
    refine ev_iload_n dX6_many_11 rfl ?_
    refine ev_iload_n dX6_many_12 rfl ?_
    refine ev_ishr dX6_many_13 ?_
    refine ev_iconst (v := 1) dX6_many_14 rfl ?_
    refine ev_iand dX6_many_15 ?_
    refine ev_iadd dX6_many_16 ?_
    refine ev_istore_n dX6_many_17 (by decide) ?_
    refine ev_iincN dX6_many_18 rfl (by decide) ?_
    refine ev_goto (tgt := 4) dX6_many_21 rfl ?_
    exact ih hlt
set_option maxRecDepth 100000 in
set_option maxHeartbeats 4000000 in
theorem t_X6_many {sh : SH} {mi : MI} {mr : MR} (x : Int32) : EV none 0 0 0 mX6_many 0 (en_l mX6_many [pv_i x]) [] sh mi mr (ok_r sh mr (mn x 16) mi) := by
  show EV none 0 0 0 mX6_many 0 [some (pv_i x), none, none] [] sh mi mr _
  refine ev_iconst (v := 0) dX6_many_0 rfl ?_
  refine ev_istore_n dX6_many_1 (by decide) ?_
  refine ev_iconst (v := 0) dX6_many_2 rfl ?_
  refine ev_istore_n dX6_many_3 (by decide) ?_
  exact lp_X6_many x 0 (by decide)
set_option maxRecDepth 100000 in
set_option maxHeartbeats 4000000 in
theorem t_X6_isBook {sh : SH} {mi : MI} {mr : MR} (hB : ba_c sh mr) (p1 : Int32) : EV none 1 0 0 mX6_isBook 0 (en_l mX6_isBook [pv_r 29, pv_i p1]) [] sh mi mr (ok_r sh mr (bi (0 ≤ p1 ∧ p1 ≤ ((mi 29 1) - 1))) mi) := by
  show EV none 1 0 0 mX6_isBook 0 [some (pv_r 29), some (pv_i p1)] [] sh mi mr _
  refine ev_iload_n dX6_isBook_0 rfl ?_
  refine ev_iconst (v := 0) dX6_isBook_1 rfl ?_
  refine ev_aload_n dX6_isBook_2 rfl ?_
  refine ev_geti dX6_isBook_3 fl_X6_126 rfl (hB.1 29 _ rfl) ?_
  refine ev_iconst (v := 1) dX6_isBook_6 rfl ?_
  refine ev_isub dX6_isBook_7 ?_
  refine ev_s3i dX6_isBook_8 cs_X6_129 (Nat.le_of_ble_eq_true rfl) (by decide) (t_X6_in _ _ _) ?_
  exact ev_ireturn (ty := .boolean) dX6_isBook_11 rfl bi_nar ⟨rfl, rfl, rfl, rfl⟩
set_option maxRecDepth 100000 in
set_option maxHeartbeats 4000000 in
theorem t_X6_isGathering_u {sh : SH} {mi : MI} {mr : MR} (hB : ba_c sh mr) (p1 p2 : Int32) (hu : ¬ (0 ≤ p1 ∧ p1 ≤ (mi 29 1) - 1)) : EV none 2 0 0 mX6_isGathering 0 (en_l mX6_isGathering [pv_r 29, pv_i p1, pv_i p2]) [] sh mi mr (ok_r sh mr 0 mi) := by
  show EV none 2 0 0 mX6_isGathering 0 [some (pv_r 29), some (pv_i p1), some (pv_i p2)] [] sh mi mr _
  refine ev_aload_n dX6_isGathering_0 rfl ?_
  refine ev_iload_n dX6_isGathering_1 rfl ?_
  refine ev_v1i dX6_isGathering_2 cv_X6_133 (hB.1 29 _ rfl) (Nat.le_of_ble_eq_true rfl) (by decide) (t_X6_isBook hB _) ?_
  refine ev_if_eq_t (tgt := 28) dX6_isGathering_5 rfl (bi_f hu) ?_
  refine ev_iconst (v := 0) dX6_isGathering_28 rfl ?_
  exact ev_ireturn (ty := .boolean) dX6_isGathering_29 rfl rfl ⟨rfl, rfl, rfl, rfl⟩
set_option maxRecDepth 100000 in
set_option maxHeartbeats 4000000 in
theorem t_X6_isGathering_g {sh : SH} {mi : MI} {mr : MR} (hB : ba_c sh mr) (nb : Nat) (hnb : mi 29 1 = nI nb) (hnb10 : nb ≤ 10) (b : Nat) (hb : b < nb) (p2 : Int32) (hv : ¬ (0 ≤ p2 ∧ p2 ≤ (mi 31 b) - 1)) : EV none 2 0 0 mX6_isGathering 0 (en_l mX6_isGathering [pv_r 29, pv_i (nI b), pv_i p2]) [] sh mi mr (ok_r sh mr 0 mi) := by
  show EV none 2 0 0 mX6_isGathering 0 [some (pv_r 29), some (pv_i (nI b)), some (pv_i p2)] [] sh mi mr _
  refine ev_aload_n dX6_isGathering_0 rfl ?_
  refine ev_iload_n dX6_isGathering_1 rfl ?_
  refine ev_v1i dX6_isGathering_2 cv_X6_133 (hB.1 29 _ rfl) (Nat.le_of_ble_eq_true rfl) (by decide) (t_X6_isBook hB _) ?_
  refine ev_if_eq_f (tgt := 28) dX6_isGathering_5 rfl (by rw [bi_1 (by rw [hnb]; exact (i_cases (by omega)).mpr ⟨b, hb, rfl⟩)]; decide) ?_
  refine ev_iload_n dX6_isGathering_8 rfl ?_
  refine ev_iconst (v := 0) dX6_isGathering_9 rfl ?_
  refine ev_aload_n dX6_isGathering_10 rfl ?_
  refine ev_getq dX6_isGathering_11 fl_X6_13 rfl (hB.1 29 _ rfl) (hB.2 29 3 _ rfl) ?_
  refine ev_iload_n dX6_isGathering_14 rfl ?_
  refine ev_iald dX6_isGathering_15 (hB.1 31 _ rfl) (j := b) rfl (by omega) (by decide) ?_
  refine ev_iconst (v := 1) dX6_isGathering_16 rfl ?_
  refine ev_isub dX6_isGathering_17 ?_
  refine ev_s3i dX6_isGathering_18 cs_X6_129 (Nat.le_of_ble_eq_true rfl) (by decide) (t_X6_in _ _ _) ?_
  refine ev_if_eq_t (tgt := 28) dX6_isGathering_21 rfl (bi_f hv) ?_
  refine ev_iconst (v := 0) dX6_isGathering_28 rfl ?_
  exact ev_ireturn (ty := .boolean) dX6_isGathering_29 rfl rfl ⟨rfl, rfl, rfl, rfl⟩
set_option maxRecDepth 100000 in
set_option maxHeartbeats 4000000 in
theorem t_X6_isGathering_k {sh : SH} {mi : MI} {mr : MR} (hB : ba_c sh mr) (nb : Nat) (hnb : mi 29 1 = nI nb) (hnb10 : nb ≤ 10) (b : Nat) (hb : b < nb) (g : Nat) (hg : mi 31 b = nI g) (hg6 : g ≤ 6) (j : Nat) (hj : j < g) : EV none 2 0 0 mX6_isGathering 0 (en_l mX6_isGathering [pv_r 29, pv_i (nI b), pv_i (nI j)]) [] sh mi mr (ok_r sh mr 1 mi) := by
  show EV none 2 0 0 mX6_isGathering 0 [some (pv_r 29), some (pv_i (nI b)), some (pv_i (nI j))] [] sh mi mr _
  refine ev_aload_n dX6_isGathering_0 rfl ?_
  refine ev_iload_n dX6_isGathering_1 rfl ?_
  refine ev_v1i dX6_isGathering_2 cv_X6_133 (hB.1 29 _ rfl) (Nat.le_of_ble_eq_true rfl) (by decide) (t_X6_isBook hB _) ?_
  refine ev_if_eq_f (tgt := 28) dX6_isGathering_5 rfl (by rw [bi_1 (by rw [hnb]; exact (i_cases (by omega)).mpr ⟨b, hb, rfl⟩)]; decide) ?_
  refine ev_iload_n dX6_isGathering_8 rfl ?_
  refine ev_iconst (v := 0) dX6_isGathering_9 rfl ?_
  refine ev_aload_n dX6_isGathering_10 rfl ?_
  refine ev_getq dX6_isGathering_11 fl_X6_13 rfl (hB.1 29 _ rfl) (hB.2 29 3 _ rfl) ?_
  refine ev_iload_n dX6_isGathering_14 rfl ?_
  refine ev_iald dX6_isGathering_15 (hB.1 31 _ rfl) (j := b) rfl (by omega) (by decide) ?_
  refine ev_iconst (v := 1) dX6_isGathering_16 rfl ?_
  refine ev_isub dX6_isGathering_17 ?_
  refine ev_s3i dX6_isGathering_18 cs_X6_129 (Nat.le_of_ble_eq_true rfl) (by decide) (t_X6_in _ _ _) ?_
  refine ev_if_eq_f (tgt := 28) dX6_isGathering_21 rfl (by rw [bi_1 (by rw [hg]; exact (i_cases (by omega)).mpr ⟨j, hj, rfl⟩)]; decide) ?_
  refine ev_iconst (v := 1) dX6_isGathering_24 rfl ?_
  refine ev_goto (tgt := 29) dX6_isGathering_25 rfl ?_
  exact ev_ireturn (ty := .boolean) dX6_isGathering_29 rfl rfl ⟨rfl, rfl, rfl, rfl⟩
set_option maxRecDepth 100000 in
set_option maxHeartbeats 4000000 in
theorem t_X6_gather_u {sh : SH} {mi : MI} {mr : MR} (hB : ba_c sh mr) (p1 p2 : Int32) (hu : ¬ (0 ≤ p1 ∧ p1 ≤ (mi 29 1) - 1)) : EV none 2 0 0 mX6_gather 0 (en_l mX6_gather [pv_r 29, pv_i p1, pv_i p2]) [] sh mi mr (ok_r sh mr (-2) mi) := by
  show EV none 2 0 0 mX6_gather 0 [some (pv_r 29), some (pv_i p1), some (pv_i p2), none] [] sh mi mr _
  refine ev_aload_n dX6_gather_0 rfl ?_
  refine ev_iload_n dX6_gather_1 rfl ?_
  refine ev_v1i dX6_gather_2 cv_X6_133 (hB.1 29 _ rfl) (Nat.le_of_ble_eq_true rfl) (by decide) (t_X6_isBook hB _) ?_
  refine ev_if_ne_f (tgt := 11) dX6_gather_5 rfl (bi_f hu) ?_
  refine ev_bipush (v := (-2)) dX6_gather_8 rfl ?_
  exact ev_ireturn (ty := .int) dX6_gather_10 rfl rfl ⟨rfl, rfl, rfl, rfl⟩
set_option maxRecDepth 100000 in
set_option maxHeartbeats 4000000 in
theorem t_X6_pass_u {sh : SH} {mi : MI} {mr : MR} (hB : ba_c sh mr) (p1 : Int32) (hu : ¬ (0 ≤ p1 ∧ p1 ≤ (mi 29 1) - 1)) : EV none 2 0 0 mX6_pass 0 (en_l mX6_pass [pv_r 29, pv_i p1]) [] sh mi mr (ok_r sh mr (-2) mi) := by
  show EV none 2 0 0 mX6_pass 0 [some (pv_r 29), some (pv_i p1), none, none] [] sh mi mr _
  refine ev_aload_n dX6_pass_0 rfl ?_
  refine ev_iload_n dX6_pass_1 rfl ?_
  refine ev_v1i dX6_pass_2 cv_X6_133 (hB.1 29 _ rfl) (Nat.le_of_ble_eq_true rfl) (by decide) (t_X6_isBook hB _) ?_
  refine ev_if_ne_f (tgt := 11) dX6_pass_5 rfl (bi_f hu) ?_
  refine ev_bipush (v := (-2)) dX6_pass_8 rfl ?_
  exact ev_ireturn (ty := .int) dX6_pass_10 rfl rfl ⟨rfl, rfl, rfl, rfl⟩
set_option maxRecDepth 100000 in
set_option maxHeartbeats 4000000 in
theorem t_X6_told_u {sh : SH} {mi : MI} {mr : MR} (hB : ba_c sh mr) (p1 p2 : Int32) (hu : ¬ (0 ≤ p1 ∧ p1 ≤ (mi 29 1) - 1)) : EV none 2 0 0 mX6_told 0 (en_l mX6_told [pv_r 29, pv_i p1, pv_i p2]) [] sh mi mr (ok_r sh mr (-2) mi) := by
  show EV none 2 0 0 mX6_told 0 [some (pv_r 29), some (pv_i p1), some (pv_i p2), none, none] [] sh mi mr _
  refine ev_aload_n dX6_told_0 rfl ?_
  refine ev_iload_n dX6_told_1 rfl ?_
  refine ev_v1i dX6_told_2 cv_X6_133 (hB.1 29 _ rfl) (Nat.le_of_ble_eq_true rfl) (by decide) (t_X6_isBook hB _) ?_
  refine ev_if_ne_f (tgt := 11) dX6_told_5 rfl (bi_f hu) ?_
  refine ev_bipush (v := (-2)) dX6_told_8 rfl ?_
  exact ev_ireturn (ty := .int) dX6_told_10 rfl rfl ⟨rfl, rfl, rfl, rfl⟩
set_option maxRecDepth 100000 in
set_option maxHeartbeats 4000000 in
theorem t_X6_gone_u {sh : SH} {mi : MI} {mr : MR} (hB : ba_c sh mr) (p1 p2 p3 : Int32) (hu : ¬ (0 ≤ p1 ∧ p1 ≤ (mi 29 1) - 1)) : EV none 2 0 0 mX6_gone 0 (en_l mX6_gone [pv_r 29, pv_i p1, pv_i p2, pv_i p3]) [] sh mi mr (ok_r sh mr (-2) mi) := by
  show EV none 2 0 0 mX6_gone 0 [some (pv_r 29), some (pv_i p1), some (pv_i p2), some (pv_i p3)] [] sh mi mr _
  refine ev_aload_n dX6_gone_0 rfl ?_
  refine ev_iload_n dX6_gone_1 rfl ?_
  refine ev_v1i dX6_gone_2 cv_X6_133 (hB.1 29 _ rfl) (Nat.le_of_ble_eq_true rfl) (by decide) (t_X6_isBook hB _) ?_
  refine ev_if_eq_t (tgt := 15) dX6_gone_5 rfl (bi_f hu) ?_
  refine ev_bipush (v := (-2)) dX6_gone_15 rfl ?_
  exact ev_ireturn (ty := .int) dX6_gone_17 rfl rfl ⟨rfl, rfl, rfl, rfl⟩
set_option maxRecDepth 100000 in
set_option maxHeartbeats 4000000 in
theorem t_X6_hours_u {sh : SH} {mi : MI} {mr : MR} (hB : ba_c sh mr) (p1 p2 p3 : Int32) (hu : ¬ (0 ≤ p1 ∧ p1 ≤ (mi 29 1) - 1)) : EV none 2 0 0 mX6_hours 0 (en_l mX6_hours [pv_r 29, pv_i p1, pv_i p2, pv_i p3]) [] sh mi mr (ok_r sh mr (-2) mi) := by
  show EV none 2 0 0 mX6_hours 0 [some (pv_r 29), some (pv_i p1), some (pv_i p2), some (pv_i p3)] [] sh mi mr _
  refine ev_aload_n dX6_hours_0 rfl ?_
  refine ev_iload_n dX6_hours_1 rfl ?_
  refine ev_v1i dX6_hours_2 cv_X6_133 (hB.1 29 _ rfl) (Nat.le_of_ble_eq_true rfl) (by decide) (t_X6_isBook hB _) ?_
  refine ev_if_eq_t (tgt := 15) dX6_hours_5 rfl (bi_f hu) ?_
  refine ev_bipush (v := (-2)) dX6_hours_15 rfl ?_
  exact ev_ireturn (ty := .int) dX6_hours_17 rfl rfl ⟨rfl, rfl, rfl, rfl⟩
set_option maxRecDepth 100000 in
set_option maxHeartbeats 4000000 in
theorem t_X6_promise_u {sh : SH} {mi : MI} {mr : MR} (hB : ba_c sh mr) (p1 p2 p3 p4 : Int32) (hu : ¬ (0 ≤ p1 ∧ p1 ≤ (mi 29 1) - 1)) : EV none 2 0 0 mX6_promise 0 (en_l mX6_promise [pv_r 29, pv_i p1, pv_i p2, pv_i p3, pv_i p4]) [] sh mi mr (ok_r sh mr (-2) mi) := by
  show EV none 2 0 0 mX6_promise 0 [some (pv_r 29), some (pv_i p1), some (pv_i p2), some (pv_i p3), some (pv_i p4)] [] sh mi mr _
  refine ev_aload_n dX6_promise_0 rfl ?_
  refine ev_iload_n dX6_promise_1 rfl ?_
  refine ev_v1i dX6_promise_2 cv_X6_133 (hB.1 29 _ rfl) (Nat.le_of_ble_eq_true rfl) (by decide) (t_X6_isBook hB _) ?_
  refine ev_if_ne_f (tgt := 11) dX6_promise_5 rfl (bi_f hu) ?_
  refine ev_bipush (v := (-2)) dX6_promise_8 rfl ?_
  exact ev_ireturn (ty := .int) dX6_promise_10 rfl rfl ⟨rfl, rfl, rfl, rfl⟩
set_option maxRecDepth 100000 in
set_option maxHeartbeats 4000000 in
theorem t_X6_look_u {sh : SH} {mi : MI} {mr : MR} (hB : ba_c sh mr) (p1 p2 p3 : Int32) (hu : ¬ (0 ≤ p1 ∧ p1 ≤ (mi 29 1) - 1)) : EV none 3 0 0 mX6_look 0 (en_l mX6_look [pv_r 29, pv_i p1, pv_i p2, pv_i p3]) [] sh mi mr (ok_r sh mr (-2) mi) := by
  show EV none 3 0 0 mX6_look 0 [some (pv_r 29), some (pv_i p1), some (pv_i p2), some (pv_i p3), none, none, none] [] sh mi mr _
  refine ev_aload_n dX6_look_0 rfl ?_
  refine ev_iload_n dX6_look_1 rfl ?_
  refine ev_iload_n dX6_look_2 rfl ?_
  refine ev_v2i dX6_look_3 cv_X6_137 (hB.1 29 _ rfl) (Nat.le_of_ble_eq_true rfl) (by decide) (t_X6_isGathering_u hB _ _ hu) ?_
  refine ev_if_ne_f (tgt := 12) dX6_look_6 rfl (by decide) ?_
  refine ev_bipush (v := (-2)) dX6_look_9 rfl ?_
  exact ev_ireturn (ty := .int) dX6_look_11 rfl rfl ⟨rfl, rfl, rfl, rfl⟩
set_option maxRecDepth 100000 in
set_option maxHeartbeats 4000000 in
theorem t_X6_there_u {sh : SH} {mi : MI} {mr : MR} (hB : ba_c sh mr) (p1 p2 : Int32) (hu : ¬ (0 ≤ p1 ∧ p1 ≤ (mi 29 1) - 1)) : EV none 3 0 0 mX6_there 0 (en_l mX6_there [pv_r 29, pv_i p1, pv_i p2]) [] sh mi mr (ok_r sh mr (-2) mi) := by
  show EV none 3 0 0 mX6_there 0 [some (pv_r 29), some (pv_i p1), some (pv_i p2)] [] sh mi mr _
  refine ev_aload_n dX6_there_0 rfl ?_
  refine ev_iload_n dX6_there_1 rfl ?_
  refine ev_iload_n dX6_there_2 rfl ?_
  refine ev_v2i dX6_there_3 cv_X6_137 (hB.1 29 _ rfl) (Nat.le_of_ble_eq_true rfl) (by decide) (t_X6_isGathering_u hB _ _ hu) ?_
  refine ev_if_eq_t (tgt := 23) dX6_there_6 rfl (by decide) ?_
  refine ev_bipush (v := (-2)) dX6_there_23 rfl ?_
  exact ev_ireturn (ty := .int) dX6_there_25 rfl rfl ⟨rfl, rfl, rfl, rfl⟩
set_option maxRecDepth 100000 in
set_option maxHeartbeats 4000000 in
theorem t_X6_look_g {sh : SH} {mi : MI} {mr : MR} (hB : ba_c sh mr) (nb : Nat) (hnb : mi 29 1 = nI nb) (hnb10 : nb ≤ 10) (b : Nat) (hb : b < nb) (p2 p3 : Int32) (hv : ¬ (0 ≤ p2 ∧ p2 ≤ (mi 31 b) - 1)) : EV none 3 0 0 mX6_look 0 (en_l mX6_look [pv_r 29, pv_i (nI b), pv_i p2, pv_i p3]) [] sh mi mr (ok_r sh mr (-2) mi) := by
  show EV none 3 0 0 mX6_look 0 [some (pv_r 29), some (pv_i (nI b)), some (pv_i p2), some (pv_i p3), none, none, none] [] sh mi mr _
  refine ev_aload_n dX6_look_0 rfl ?_
  refine ev_iload_n dX6_look_1 rfl ?_
  refine ev_iload_n dX6_look_2 rfl ?_
  refine ev_v2i dX6_look_3 cv_X6_137 (hB.1 29 _ rfl) (Nat.le_of_ble_eq_true rfl) (by decide) (t_X6_isGathering_g hB nb hnb hnb10 b hb _ hv) ?_
  refine ev_if_ne_f (tgt := 12) dX6_look_6 rfl (by decide) ?_
  refine ev_bipush (v := (-2)) dX6_look_9 rfl ?_
  exact ev_ireturn (ty := .int) dX6_look_11 rfl rfl ⟨rfl, rfl, rfl, rfl⟩
set_option maxRecDepth 100000 in
set_option maxHeartbeats 4000000 in
theorem t_X6_there_g {sh : SH} {mi : MI} {mr : MR} (hB : ba_c sh mr) (nb : Nat) (hnb : mi 29 1 = nI nb) (hnb10 : nb ≤ 10) (b : Nat) (hb : b < nb) (p2 : Int32) (hv : ¬ (0 ≤ p2 ∧ p2 ≤ (mi 31 b) - 1)) : EV none 3 0 0 mX6_there 0 (en_l mX6_there [pv_r 29, pv_i (nI b), pv_i p2]) [] sh mi mr (ok_r sh mr (-2) mi) := by
  show EV none 3 0 0 mX6_there 0 [some (pv_r 29), some (pv_i (nI b)), some (pv_i p2)] [] sh mi mr _
  refine ev_aload_n dX6_there_0 rfl ?_
  refine ev_iload_n dX6_there_1 rfl ?_
  refine ev_iload_n dX6_there_2 rfl ?_
  refine ev_v2i dX6_there_3 cv_X6_137 (hB.1 29 _ rfl) (Nat.le_of_ble_eq_true rfl) (by decide) (t_X6_isGathering_g hB nb hnb hnb10 b hb _ hv) ?_
  refine ev_if_eq_t (tgt := 23) dX6_there_6 rfl (by decide) ?_
  refine ev_bipush (v := (-2)) dX6_there_23 rfl ?_
  exact ev_ireturn (ty := .int) dX6_there_25 rfl rfl ⟨rfl, rfl, rfl, rfl⟩
set_option maxRecDepth 100000 in
set_option maxHeartbeats 4000000 in
theorem t_X6_there_k {sh : SH} {mi : MI} {mr : MR} (hB : ba_c sh mr) (nb : Nat) (hnb : mi 29 1 = nI nb) (hnb10 : nb ≤ 10) (b : Nat) (hb : b < nb) (g : Nat) (hg : mi 31 b = nI g) (hg6 : g ≤ 6) (j : Nat) (hj : j < g) : EV none 3 0 0 mX6_there 0 (en_l mX6_there [pv_r 29, pv_i (nI b), pv_i (nI j)]) [] sh mi mr (ok_r sh mr (mi 33 ((6 * b) + j)) mi) := by
  show EV none 3 0 0 mX6_there 0 [some (pv_r 29), some (pv_i (nI b)), some (pv_i (nI j))] [] sh mi mr _
  refine ev_aload_n dX6_there_0 rfl ?_
  refine ev_iload_n dX6_there_1 rfl ?_
  refine ev_iload_n dX6_there_2 rfl ?_
  refine ev_v2i dX6_there_3 cv_X6_137 (hB.1 29 _ rfl) (Nat.le_of_ble_eq_true rfl) (by decide) (t_X6_isGathering_k hB nb hnb hnb10 b hb g hg hg6 j hj) ?_
  refine ev_if_eq_f (tgt := 23) dX6_there_6 rfl (by decide) ?_
  refine ev_aload_n dX6_there_9 rfl ?_
  refine ev_getq dX6_there_10 fl_X6_19 rfl (hB.1 29 _ rfl) (hB.2 29 5 _ rfl) ?_
  refine ev_bipush (v := 6) dX6_there_13 rfl ?_
  refine ev_iload_n dX6_there_15 rfl ?_
  refine ev_imul dX6_there_16 ?_
  refine ev_iload_n dX6_there_17 rfl ?_
  refine ev_iadd dX6_there_18 ?_
  refine ev_iald dX6_there_19 (hB.1 33 _ rfl) (j := (6 * b) + j) (by simp [up_2, pk_mul, nI_add, n_5, n_6, n_12, n_144]) (by omega) (by decide) ?_
  refine ev_goto (tgt := 25) dX6_there_20 rfl ?_
  exact ev_ireturn (ty := .int) dX6_there_25 rfl rfl ⟨rfl, rfl, rfl, rfl⟩
set_option maxRecDepth 100000 in
set_option maxHeartbeats 4000000 in
theorem t_X6_gather_k {sh : SH} {mi : MI} {mr : MR} (hB : ba_c sh mr) (nb : Nat) (hnb : mi 29 1 = nI nb) (hnb10 : nb ≤ 10) (b : Nat) (hb : b < nb) (p2 : Int32) (g : Nat) (hg : mi 31 b = nI g) (hg6 : g ≤ 6) : EV none 2 0 0 mX6_gather 0 (en_l mX6_gather [pv_r 29, pv_i (nI b), pv_i p2]) [] sh mi mr (fun v_ sh_ mi_ mr_ => ((1 ≤ p2 ∧ p2 ≤ 16) ∧ ((mi 30 b) = 0) ∧ (¬ (mi 31 b) = 6) ∧ (ok_r sh mr (((up_2 (up_2 (up_2 mi 32 ((6 * b) + g) p2) 33 ((6 * b) + g) ((1 <<< (p2 &&& 31)) - 1)) 31 b (((up_2 (up_2 mi 32 ((6 * b) + g) p2) 33 ((6 * b) + g) ((1 <<< (p2 &&& 31)) - 1)) 31 b) + 1)) 31 b) - 1) (up_2 (up_2 (up_2 mi 32 ((6 * b) + g) p2) 33 ((6 * b) + g) ((1 <<< (p2 &&& 31)) - 1)) 31 b (((up_2 (up_2 mi 32 ((6 * b) + g) p2) 33 ((6 * b) + g) ((1 <<< (p2 &&& 31)) - 1)) 31 b) + 1))) v_ sh_ mi_ mr_) ∨ ((1 ≤ p2 ∧ p2 ≤ 16) ∧ ((mi 30 b) = 0) ∧ ((mi 31 b) = 6) ∧ (ok_r sh mr (-6) mi) v_ sh_ mi_ mr_) ∨ ((1 ≤ p2 ∧ p2 ≤ 16) ∧ (¬ (mi 30 b) = 0) ∧ (ok_r sh mr (-4) mi) v_ sh_ mi_ mr_) ∨ ((¬ (1 ≤ p2 ∧ p2 ≤ 16)) ∧ (ok_r sh mr (-3) mi) v_ sh_ mi_ mr_)) := by
  show EV none 2 0 0 mX6_gather 0 [some (pv_r 29), some (pv_i (nI b)), some (pv_i p2), none] [] sh mi mr _
  refine ev_aload_n dX6_gather_0 rfl ?_
  refine ev_iload_n dX6_gather_1 rfl ?_
  refine ev_v1i dX6_gather_2 cv_X6_133 (hB.1 29 _ rfl) (Nat.le_of_ble_eq_true rfl) (by decide) (t_X6_isBook hB _) ?_
  refine ev_if_ne_t (tgt := 11) dX6_gather_5 rfl (by rw [bi_1 (by rw [hnb]; exact (i_cases (by omega)).mpr ⟨b, hb, rfl⟩)]; decide) ?_
  refine ev_iload_n dX6_gather_11 rfl ?_
  refine ev_iconst (v := 1) dX6_gather_12 rfl ?_
  refine ev_bipush (v := 16) dX6_gather_13 rfl ?_
  refine ev_s3i dX6_gather_15 cs_X6_129 (Nat.le_of_ble_eq_true rfl) (by decide) (t_X6_in _ _ _) ?_
  refine ev_ifb_ne (tgt := 24) dX6_gather_18 rfl (fun h18 => ?_) (fun h18 => ?_)
  · refine ev_aload_n dX6_gather_24 rfl ?_
    refine ev_getq dX6_gather_25 fl_X6_7 rfl (hB.1 29 _ rfl) (hB.2 29 2 _ rfl) ?_
    refine ev_iload_n dX6_gather_28 rfl ?_
    refine ev_iald dX6_gather_29 (hB.1 30 _ rfl) (j := b) rfl (by omega) (by decide) ?_
    refine ev_if_eq (tgt := 36) dX6_gather_30 rfl (fun h30 => ?_) (fun h30 => ?_)
    · refine ev_aload_n dX6_gather_36 rfl ?_
      refine ev_getq dX6_gather_37 fl_X6_13 rfl (hB.1 29 _ rfl) (hB.2 29 3 _ rfl) ?_
      refine ev_iload_n dX6_gather_40 rfl ?_
      refine ev_iald dX6_gather_41 (hB.1 31 _ rfl) (j := b) rfl (by omega) (by decide) ?_
      refine ev_bipush (v := 6) dX6_gather_42 rfl ?_
      refine ev_icmp_ne (tgt := 50) dX6_gather_44 rfl (fun h44 => ?_) (fun h44 => ?_)
      · refine ev_bipush (v := 6) dX6_gather_50 rfl ?_
        refine ev_iload_n dX6_gather_52 rfl ?_
        refine ev_imul dX6_gather_53 ?_
        refine ev_aload_n dX6_gather_54 rfl ?_
        refine ev_getq dX6_gather_55 fl_X6_13 rfl (hB.1 29 _ rfl) (hB.2 29 3 _ rfl) ?_
        refine ev_iload_n dX6_gather_58 rfl ?_
        refine ev_iald dX6_gather_59 (hB.1 31 _ rfl) (j := b) rfl (by omega) (by decide) ?_
        refine ev_iadd dX6_gather_60 ?_
        refine ev_istore_n dX6_gather_61 (by decide) ?_
        refine ev_aload_n dX6_gather_62 rfl ?_
        refine ev_getq dX6_gather_63 fl_X6_16 rfl (hB.1 29 _ rfl) (hB.2 29 4 _ rfl) ?_
        refine ev_iload_n dX6_gather_66 rfl ?_
        refine ev_iload_n dX6_gather_67 rfl ?_
        refine ev_iast dX6_gather_68 (hB.1 32 _ rfl) (j := (6 * b) + g) (by simp [up_2, pk_mul, nI_add, n_5, n_6, n_12, n_144, hg]) (by have := (not_congr (nl_eq hg (b := 6) rfl (by omega) (by decide))).mp h44; omega) (by decide) ?_
        refine ev_aload_n dX6_gather_69 rfl ?_
        refine ev_getq dX6_gather_70 fl_X6_19 rfl (hB.1 29 _ rfl) (hB.2 29 5 _ rfl) ?_
        refine ev_iload_n dX6_gather_73 rfl ?_
        refine ev_iconst (v := 1) dX6_gather_74 rfl ?_
        refine ev_iload_n dX6_gather_75 rfl ?_
        refine ev_ishl dX6_gather_76 ?_
        refine ev_iconst (v := 1) dX6_gather_77 rfl ?_
        refine ev_isub dX6_gather_78 ?_
        refine ev_iast dX6_gather_79 (hB.1 33 _ rfl) (j := (6 * b) + g) (by simp [up_2, pk_mul, nI_add, n_5, n_6, n_12, n_144, hg]) (by have := (not_congr (nl_eq hg (b := 6) rfl (by omega) (by decide))).mp h44; omega) (by decide) ?_
        refine ev_aload_n dX6_gather_80 rfl ?_
        refine ev_getq dX6_gather_81 fl_X6_13 rfl (hB.1 29 _ rfl) (hB.2 29 3 _ rfl) ?_
        refine ev_iload_n dX6_gather_84 rfl ?_
        refine ev_dup2 dX6_gather_85 ?_
        refine ev_iald dX6_gather_86 (hB.1 31 _ rfl) (j := b) rfl (by omega) (by decide) ?_
        refine ev_iconst (v := 1) dX6_gather_87 rfl ?_
        refine ev_iadd dX6_gather_88 ?_
        refine ev_iast dX6_gather_89 (hB.1 31 _ rfl) (j := b) rfl (by omega) (by decide) ?_
        refine ev_aload_n dX6_gather_90 rfl ?_
        refine ev_getq dX6_gather_91 fl_X6_13 rfl (hB.1 29 _ rfl) (hB.2 29 3 _ rfl) ?_
        refine ev_iload_n dX6_gather_94 rfl ?_
        refine ev_iald dX6_gather_95 (hB.1 31 _ rfl) (j := b) rfl (by omega) (by decide) ?_
        refine ev_iconst (v := 1) dX6_gather_96 rfl ?_
        refine ev_isub dX6_gather_97 ?_
        exact ev_ireturn (ty := .int) dX6_gather_98 rfl rfl (Or.inl ⟨h18, h30, h44, rfl, rfl, rfl, rfl⟩)
      · refine ev_bipush (v := (-6)) dX6_gather_47 rfl ?_
        exact ev_ireturn (ty := .int) dX6_gather_49 rfl rfl (Or.inr (Or.inl ⟨h18, h30, h44, rfl, rfl, rfl, rfl⟩))
    · refine ev_bipush (v := (-4)) dX6_gather_33 rfl ?_
      exact ev_ireturn (ty := .int) dX6_gather_35 rfl rfl (Or.inr (Or.inr (Or.inl ⟨h18, h30, rfl, rfl, rfl, rfl⟩)))
  · refine ev_bipush (v := (-3)) dX6_gather_21 rfl ?_
    exact ev_ireturn (ty := .int) dX6_gather_23 rfl rfl (Or.inr (Or.inr (Or.inr ⟨h18, rfl, rfl, rfl, rfl⟩)))
set_option maxRecDepth 100000 in
set_option maxHeartbeats 4000000 in
theorem t_X6_look_k {sh : SH} {mi : MI} {mr : MR} (hB : ba_c sh mr) (nb : Nat) (hnb : mi 29 1 = nI nb) (hnb10 : nb ≤ 10) (b : Nat) (hb : b < nb) (g : Nat) (hg : mi 31 b = nI g) (hg6 : g ≤ 6) (a : Nat) (ha : mi 30 b = nI a) (ha5 : a ≤ 5) (j : Nat) (hj : j < g) (p3 : Int32) : EV none 3 0 0 mX6_look 0 (en_l mX6_look [pv_r 29, pv_i (nI b), pv_i (nI j), pv_i p3]) [] sh mi mr (fun v_ sh_ mi_ mr_ => ((0 ≤ p3 ∧ p3 ≤ ((1 <<< ((mi 32 ((6 * b) + j)) &&& 31)) - 1)) ∧ (¬ (mi 30 b) = 5) ∧ (ok_r sh mr ((mn ((mi 33 ((6 * b) + j)) &&& (p3 ^^^ (-1))) 16) + (mn (p3 &&& ((mi 33 ((6 * b) + j)) ^^^ (-1))) 16)) (up_2 (up_2 (up_2 (up_2 mi 35 ((5 * b) + a) ((mi 35 ((5 * b) + a)) + (mn ((mi 33 ((6 * b) + j)) &&& (p3 ^^^ (-1))) 16))) 36 ((5 * b) + a) (((up_2 mi 35 ((5 * b) + a) ((mi 35 ((5 * b) + a)) + (mn ((mi 33 ((6 * b) + j)) &&& (p3 ^^^ (-1))) 16))) 36 ((5 * b) + a)) + (mn (p3 &&& ((mi 33 ((6 * b) + j)) ^^^ (-1))) 16))) 33 ((6 * b) + j) p3) 34 ((6 * b) + j) 1)) v_ sh_ mi_ mr_) ∨ ((0 ≤ p3 ∧ p3 ≤ ((1 <<< ((mi 32 ((6 * b) + j)) &&& 31)) - 1)) ∧ ((mi 30 b) = 5) ∧ (ok_r sh mr (-4) mi) v_ sh_ mi_ mr_) ∨ ((¬ (0 ≤ p3 ∧ p3 ≤ ((1 <<< ((mi 32 ((6 * b) + j)) &&& 31)) - 1))) ∧ (ok_r sh mr (-3) mi) v_ sh_ mi_ mr_)) := by
  show EV none 3 0 0 mX6_look 0 [some (pv_r 29), some (pv_i (nI b)), some (pv_i (nI j)), some (pv_i p3), none, none, none] [] sh mi mr _
  refine ev_aload_n dX6_look_0 rfl ?_
  refine ev_iload_n dX6_look_1 rfl ?_
  refine ev_iload_n dX6_look_2 rfl ?_
  refine ev_v2i dX6_look_3 cv_X6_137 (hB.1 29 _ rfl) (Nat.le_of_ble_eq_true rfl) (by decide) (t_X6_isGathering_k hB nb hnb hnb10 b hb g hg hg6 j hj) ?_
  refine ev_if_ne_t (tgt := 12) dX6_look_6 rfl (by decide) ?_
  refine ev_bipush (v := 6) dX6_look_12 rfl ?_
  refine ev_iload_n dX6_look_14 rfl ?_
  refine ev_imul dX6_look_15 ?_
  refine ev_iload_n dX6_look_16 rfl ?_
  refine ev_iadd dX6_look_17 ?_
  refine ev_istore dX6_look_18 (by decide) ?_
  refine ev_iload_n dX6_look_20 rfl ?_
  refine ev_iconst (v := 0) dX6_look_21 rfl ?_
  refine ev_iconst (v := 1) dX6_look_22 rfl ?_
  refine ev_aload_n dX6_look_23 rfl ?_
  refine ev_getq dX6_look_24 fl_X6_16 rfl (hB.1 29 _ rfl) (hB.2 29 4 _ rfl) ?_
  refine ev_iload dX6_look_27 rfl ?_
  refine ev_iald dX6_look_29 (hB.1 32 _ rfl) (j := (6 * b) + j) (by simp [up_2, pk_mul, nI_add, n_5, n_6, n_12, n_144, hg, ha]) (by omega) (by decide) ?_
  refine ev_ishl dX6_look_30 ?_
  refine ev_iconst (v := 1) dX6_look_31 rfl ?_
  refine ev_isub dX6_look_32 ?_
  refine ev_s3i dX6_look_33 cs_X6_129 (Nat.le_of_ble_eq_true rfl) (by decide) (t_X6_in _ _ _) ?_
  refine ev_ifb_ne (tgt := 42) dX6_look_36 rfl (fun h36 => ?_) (fun h36 => ?_)
  · refine ev_aload_n dX6_look_42 rfl ?_
    refine ev_getq dX6_look_43 fl_X6_7 rfl (hB.1 29 _ rfl) (hB.2 29 2 _ rfl) ?_
    refine ev_iload_n dX6_look_46 rfl ?_
    refine ev_iald dX6_look_47 (hB.1 30 _ rfl) (j := b) rfl (by omega) (by decide) ?_
    refine ev_iconst (v := 5) dX6_look_48 rfl ?_
    refine ev_icmp_ne (tgt := 55) dX6_look_49 rfl (fun h49 => ?_) (fun h49 => ?_)
    · refine ev_aload_n dX6_look_55 rfl ?_
      refine ev_getq dX6_look_56 fl_X6_19 rfl (hB.1 29 _ rfl) (hB.2 29 5 _ rfl) ?_
      refine ev_iload dX6_look_59 rfl ?_
      refine ev_iald dX6_look_61 (hB.1 33 _ rfl) (j := (6 * b) + j) (by simp [up_2, pk_mul, nI_add, n_5, n_6, n_12, n_144, hg, ha]) (by omega) (by decide) ?_
      refine ev_iload_n dX6_look_62 rfl ?_
      refine ev_iconst (v := (-1)) dX6_look_63 rfl ?_
      refine ev_ixor dX6_look_64 ?_
      refine ev_iand dX6_look_65 ?_
      refine ev_s1i dX6_look_66 cs_X6_141 (Nat.le_of_ble_eq_true rfl) (by decide) (t_X6_many _) ?_
      refine ev_istore dX6_look_69 (by decide) ?_
      refine ev_iload_n dX6_look_71 rfl ?_
      refine ev_aload_n dX6_look_72 rfl ?_
      refine ev_getq dX6_look_73 fl_X6_19 rfl (hB.1 29 _ rfl) (hB.2 29 5 _ rfl) ?_
      refine ev_iload dX6_look_76 rfl ?_
      refine ev_iald dX6_look_78 (hB.1 33 _ rfl) (j := (6 * b) + j) (by simp [up_2, pk_mul, nI_add, n_5, n_6, n_12, n_144, hg, ha]) (by omega) (by decide) ?_
      refine ev_iconst (v := (-1)) dX6_look_79 rfl ?_
      refine ev_ixor dX6_look_80 ?_
      refine ev_iand dX6_look_81 ?_
      refine ev_s1i dX6_look_82 cs_X6_141 (Nat.le_of_ble_eq_true rfl) (by decide) (t_X6_many _) ?_
      refine ev_istore dX6_look_85 (by decide) ?_
      refine ev_aload_n dX6_look_87 rfl ?_
      refine ev_getq dX6_look_88 fl_X6_26 rfl (hB.1 29 _ rfl) (hB.2 29 7 _ rfl) ?_
      refine ev_iconst (v := 5) dX6_look_91 rfl ?_
      refine ev_iload_n dX6_look_92 rfl ?_
      refine ev_imul dX6_look_93 ?_
      refine ev_aload_n dX6_look_94 rfl ?_
      refine ev_getq dX6_look_95 fl_X6_7 rfl (hB.1 29 _ rfl) (hB.2 29 2 _ rfl) ?_
      refine ev_iload_n dX6_look_98 rfl ?_
      refine ev_iald dX6_look_99 (hB.1 30 _ rfl) (j := b) rfl (by omega) (by decide) ?_
      refine ev_iadd dX6_look_100 ?_
      refine ev_dup2 dX6_look_101 ?_
      refine ev_iald dX6_look_102 (hB.1 35 _ rfl) (j := (5 * b) + a) (by simp [up_2, pk_mul, nI_add, n_5, n_6, n_12, n_144, hg, ha]) (by have := (not_congr (nl_eq ha (b := 5) rfl (by omega) (by decide))).mp h49; omega) (by decide) ?_
      refine ev_iload dX6_look_103 rfl ?_
      refine ev_iadd dX6_look_105 ?_
      refine ev_iast dX6_look_106 (hB.1 35 _ rfl) (j := (5 * b) + a) (by simp [up_2, pk_mul, nI_add, n_5, n_6, n_12, n_144, hg, ha]) (by have := (not_congr (nl_eq ha (b := 5) rfl (by omega) (by decide))).mp h49; omega) (by decide) ?_
      refine ev_aload_n dX6_look_107 rfl ?_
      refine ev_getq dX6_look_108 fl_X6_29 rfl (hB.1 29 _ rfl) (hB.2 29 8 _ rfl) ?_
      refine ev_iconst (v := 5) dX6_look_111 rfl ?_
      refine ev_iload_n dX6_look_112 rfl ?_
      refine ev_imul dX6_look_113 ?_
      refine ev_aload_n dX6_look_114 rfl ?_
      refine ev_getq dX6_look_115 fl_X6_7 rfl (hB.1 29 _ rfl) (hB.2 29 2 _ rfl) ?_
      refine ev_iload_n dX6_look_118 rfl ?_
      refine ev_iald dX6_look_119 (hB.1 30 _ rfl) (j := b) rfl (by omega) (by decide) ?_
      refine ev_iadd dX6_look_120 ?_
      refine ev_dup2 dX6_look_121 ?_
      refine ev_iald dX6_look_122 (hB.1 36 _ rfl) (j := (5 * b) + a) (by simp [up_2, pk_mul, nI_add, n_5, n_6, n_12, n_144, hg, ha]) (by have := (not_congr (nl_eq ha (b := 5) rfl (by omega) (by decide))).mp h49; omega) (by decide) ?_
      refine ev_iload dX6_look_123 rfl ?_
      refine ev_iadd dX6_look_125 ?_
      refine ev_iast dX6_look_126 (hB.1 36 _ rfl) (j := (5 * b) + a) (by simp [up_2, pk_mul, nI_add, n_5, n_6, n_12, n_144, hg, ha]) (by have := (not_congr (nl_eq ha (b := 5) rfl (by omega) (by decide))).mp h49; omega) (by decide) ?_
      refine ev_aload_n dX6_look_127 rfl ?_
      refine ev_getq dX6_look_128 fl_X6_19 rfl (hB.1 29 _ rfl) (hB.2 29 5 _ rfl) ?_
      refine ev_iload dX6_look_131 rfl ?_
      refine ev_iload_n dX6_look_133 rfl ?_
      refine ev_iast dX6_look_134 (hB.1 33 _ rfl) (j := (6 * b) + j) (by simp [up_2, pk_mul, nI_add, n_5, n_6, n_12, n_144, hg, ha]) (by omega) (by decide) ?_
      refine ev_aload_n dX6_look_135 rfl ?_
      refine ev_getq dX6_look_136 fl_X6_22 rfl (hB.1 29 _ rfl) (hB.2 29 6 _ rfl) ?_
      refine ev_iload dX6_look_139 rfl ?_
      refine ev_iconst (v := 1) dX6_look_141 rfl ?_
      refine ev_zast dX6_look_142 (hB.1 34 _ rfl) (j := (6 * b) + j) (by simp [up_2, pk_mul, nI_add, n_5, n_6, n_12, n_144, hg, ha]) (by omega) (by decide) rfl ?_
      refine ev_iload dX6_look_143 rfl ?_
      refine ev_iload dX6_look_145 rfl ?_
      refine ev_iadd dX6_look_147 ?_
      exact ev_ireturn (ty := .int) dX6_look_148 rfl rfl (Or.inl ⟨h36, h49, rfl, rfl, rfl, rfl⟩)
    · refine ev_bipush (v := (-4)) dX6_look_52 rfl ?_
      exact ev_ireturn (ty := .int) dX6_look_54 rfl rfl (Or.inr (Or.inl ⟨h36, h49, rfl, rfl, rfl, rfl⟩))
  · refine ev_bipush (v := (-3)) dX6_look_39 rfl ?_
    exact ev_ireturn (ty := .int) dX6_look_41 rfl rfl (Or.inr (Or.inr ⟨h36, rfl, rfl, rfl, rfl⟩))
set_option maxRecDepth 100000 in
set_option maxHeartbeats 4000000 in
theorem t_X6_gone_b {sh : SH} {mi : MI} {mr : MR} (hB : ba_c sh mr) (nb : Nat) (hnb : mi 29 1 = nI nb) (hnb10 : nb ≤ 10) (b : Nat) (hb : b < nb) (p2 p3 : Int32) (hv : ¬ (0 ≤ p2 ∧ p2 ≤ 4)) : EV none 2 0 0 mX6_gone 0 (en_l mX6_gone [pv_r 29, pv_i (nI b), pv_i p2, pv_i p3]) [] sh mi mr (ok_r sh mr (-2) mi) := by
  show EV none 2 0 0 mX6_gone 0 [some (pv_r 29), some (pv_i (nI b)), some (pv_i p2), some (pv_i p3)] [] sh mi mr _
  refine ev_aload_n dX6_gone_0 rfl ?_
  refine ev_iload_n dX6_gone_1 rfl ?_
  refine ev_v1i dX6_gone_2 cv_X6_133 (hB.1 29 _ rfl) (Nat.le_of_ble_eq_true rfl) (by decide) (t_X6_isBook hB _) ?_
  refine ev_if_eq_f (tgt := 15) dX6_gone_5 rfl (by rw [bi_1 (by rw [hnb]; exact (i_cases (by omega)).mpr ⟨b, hb, rfl⟩)]; decide) ?_
  refine ev_iload_n dX6_gone_8 rfl ?_
  refine ev_s1i dX6_gone_9 cs_X6_151 (Nat.le_of_ble_eq_true rfl) (by decide) (t_X6_isBench _) ?_
  refine ev_if_ne_f (tgt := 18) dX6_gone_12 rfl (bi_f hv) ?_
  refine ev_bipush (v := (-2)) dX6_gone_15 rfl ?_
  exact ev_ireturn (ty := .int) dX6_gone_17 rfl rfl ⟨rfl, rfl, rfl, rfl⟩
set_option maxRecDepth 100000 in
set_option maxHeartbeats 4000000 in
theorem t_X6_gone_k {sh : SH} {mi : MI} {mr : MR} (hB : ba_c sh mr) (nb : Nat) (hnb : mi 29 1 = nI nb) (hnb10 : nb ≤ 10) (b : Nat) (hb : b < nb) (k : Nat) (hk5 : k < 5) (p3 : Int32) : EV none 2 0 0 mX6_gone 0 (en_l mX6_gone [pv_r 29, pv_i (nI b), pv_i (nI k), pv_i p3]) [] sh mi mr (fun v_ sh_ mi_ mr_ => ((¬ p3 = 0) ∧ (¬ p3 = 1) ∧ (ok_r sh mr (-3) mi) v_ sh_ mi_ mr_) ∨ ((¬ p3 = 0) ∧ (p3 = 1) ∧ (ok_r sh mr (mi 36 ((5 * b) + k)) mi) v_ sh_ mi_ mr_) ∨ ((p3 = 0) ∧ (ok_r sh mr (mi 35 ((5 * b) + k)) mi) v_ sh_ mi_ mr_)) := by
  show EV none 2 0 0 mX6_gone 0 [some (pv_r 29), some (pv_i (nI b)), some (pv_i (nI k)), some (pv_i p3)] [] sh mi mr _
  refine ev_aload_n dX6_gone_0 rfl ?_
  refine ev_iload_n dX6_gone_1 rfl ?_
  refine ev_v1i dX6_gone_2 cv_X6_133 (hB.1 29 _ rfl) (Nat.le_of_ble_eq_true rfl) (by decide) (t_X6_isBook hB _) ?_
  refine ev_if_eq_f (tgt := 15) dX6_gone_5 rfl (by rw [bi_1 (by rw [hnb]; exact (i_cases (by omega)).mpr ⟨b, hb, rfl⟩)]; decide) ?_
  refine ev_iload_n dX6_gone_8 rfl ?_
  refine ev_s1i dX6_gone_9 cs_X6_151 (Nat.le_of_ble_eq_true rfl) (by decide) (t_X6_isBench _) ?_
  refine ev_if_ne_t (tgt := 18) dX6_gone_12 rfl (by rw [bi_1 ((i_in 4 (n := 4) rfl (by decide)).mpr ⟨k, by omega, rfl⟩)]; decide) ?_
  refine ev_iload_n dX6_gone_18 rfl ?_
  refine ev_if_ne (tgt := 35) dX6_gone_19 rfl (fun h19 => ?_) (fun h19 => ?_)
  · refine ev_iload_n dX6_gone_35 rfl ?_
    refine ev_iconst (v := 1) dX6_gone_36 rfl ?_
    refine ev_icmp_ne (tgt := 53) dX6_gone_37 rfl (fun h37 => ?_) (fun h37 => ?_)
    · refine ev_bipush (v := (-3)) dX6_gone_53 rfl ?_
      exact ev_ireturn (ty := .int) dX6_gone_55 rfl rfl (Or.inl ⟨h19, h37, rfl, rfl, rfl, rfl⟩)
    · refine ev_aload_n dX6_gone_40 rfl ?_
      refine ev_getq dX6_gone_41 fl_X6_29 rfl (hB.1 29 _ rfl) (hB.2 29 8 _ rfl) ?_
      refine ev_iconst (v := 5) dX6_gone_44 rfl ?_
      refine ev_iload_n dX6_gone_45 rfl ?_
      refine ev_imul dX6_gone_46 ?_
      refine ev_iload_n dX6_gone_47 rfl ?_
      refine ev_iadd dX6_gone_48 ?_
      refine ev_iald dX6_gone_49 (hB.1 36 _ rfl) (j := (5 * b) + k) (by simp [up_2, pk_mul, nI_add, n_5, n_6, n_12, n_144]) (by omega) (by decide) ?_
      refine ev_goto (tgt := 55) dX6_gone_50 rfl ?_
      exact ev_ireturn (ty := .int) dX6_gone_55 rfl rfl (Or.inr (Or.inl ⟨h19, h37, rfl, rfl, rfl, rfl⟩))
  · refine ev_aload_n dX6_gone_22 rfl ?_
    refine ev_getq dX6_gone_23 fl_X6_26 rfl (hB.1 29 _ rfl) (hB.2 29 7 _ rfl) ?_
    refine ev_iconst (v := 5) dX6_gone_26 rfl ?_
    refine ev_iload_n dX6_gone_27 rfl ?_
    refine ev_imul dX6_gone_28 ?_
    refine ev_iload_n dX6_gone_29 rfl ?_
    refine ev_iadd dX6_gone_30 ?_
    refine ev_iald dX6_gone_31 (hB.1 35 _ rfl) (j := (5 * b) + k) (by simp [up_2, pk_mul, nI_add, n_5, n_6, n_12, n_144]) (by omega) (by decide) ?_
    refine ev_goto (tgt := 55) dX6_gone_32 rfl ?_
    exact ev_ireturn (ty := .int) dX6_gone_55 rfl rfl (Or.inr (Or.inr ⟨h19, rfl, rfl, rfl, rfl⟩))
set_option maxRecDepth 100000 in
set_option maxHeartbeats 4000000 in
theorem t_X6_hours_b {sh : SH} {mi : MI} {mr : MR} (hB : ba_c sh mr) (nb : Nat) (hnb : mi 29 1 = nI nb) (hnb10 : nb ≤ 10) (b : Nat) (hb : b < nb) (p2 p3 : Int32) (hv : ¬ (0 ≤ p2 ∧ p2 ≤ 4)) : EV none 2 0 0 mX6_hours 0 (en_l mX6_hours [pv_r 29, pv_i (nI b), pv_i p2, pv_i p3]) [] sh mi mr (ok_r sh mr (-2) mi) := by
  show EV none 2 0 0 mX6_hours 0 [some (pv_r 29), some (pv_i (nI b)), some (pv_i p2), some (pv_i p3)] [] sh mi mr _
  refine ev_aload_n dX6_hours_0 rfl ?_
  refine ev_iload_n dX6_hours_1 rfl ?_
  refine ev_v1i dX6_hours_2 cv_X6_133 (hB.1 29 _ rfl) (Nat.le_of_ble_eq_true rfl) (by decide) (t_X6_isBook hB _) ?_
  refine ev_if_eq_f (tgt := 15) dX6_hours_5 rfl (by rw [bi_1 (by rw [hnb]; exact (i_cases (by omega)).mpr ⟨b, hb, rfl⟩)]; decide) ?_
  refine ev_iload_n dX6_hours_8 rfl ?_
  refine ev_s1i dX6_hours_9 cs_X6_151 (Nat.le_of_ble_eq_true rfl) (by decide) (t_X6_isBench _) ?_
  refine ev_if_ne_f (tgt := 18) dX6_hours_12 rfl (bi_f hv) ?_
  refine ev_bipush (v := (-2)) dX6_hours_15 rfl ?_
  exact ev_ireturn (ty := .int) dX6_hours_17 rfl rfl ⟨rfl, rfl, rfl, rfl⟩
set_option maxRecDepth 100000 in
set_option maxHeartbeats 4000000 in
theorem t_X6_hours_k {sh : SH} {mi : MI} {mr : MR} (hB : ba_c sh mr) (nb : Nat) (hnb : mi 29 1 = nI nb) (hnb10 : nb ≤ 10) (b : Nat) (hb : b < nb) (k : Nat) (hk5 : k < 5) (p3 : Int32) : EV none 2 0 0 mX6_hours 0 (en_l mX6_hours [pv_r 29, pv_i (nI b), pv_i (nI k), pv_i p3]) [] sh mi mr (fun v_ sh_ mi_ mr_ => ((0 ≤ p3 ∧ p3 ≤ 50) ∧ (ok_r sh mr 1 (up_2 mi 37 ((5 * b) + k) p3)) v_ sh_ mi_ mr_) ∨ ((¬ (0 ≤ p3 ∧ p3 ≤ 50)) ∧ (ok_r sh mr (-3) mi) v_ sh_ mi_ mr_)) := by
  show EV none 2 0 0 mX6_hours 0 [some (pv_r 29), some (pv_i (nI b)), some (pv_i (nI k)), some (pv_i p3)] [] sh mi mr _
  refine ev_aload_n dX6_hours_0 rfl ?_
  refine ev_iload_n dX6_hours_1 rfl ?_
  refine ev_v1i dX6_hours_2 cv_X6_133 (hB.1 29 _ rfl) (Nat.le_of_ble_eq_true rfl) (by decide) (t_X6_isBook hB _) ?_
  refine ev_if_eq_f (tgt := 15) dX6_hours_5 rfl (by rw [bi_1 (by rw [hnb]; exact (i_cases (by omega)).mpr ⟨b, hb, rfl⟩)]; decide) ?_
  refine ev_iload_n dX6_hours_8 rfl ?_
  refine ev_s1i dX6_hours_9 cs_X6_151 (Nat.le_of_ble_eq_true rfl) (by decide) (t_X6_isBench _) ?_
  refine ev_if_ne_t (tgt := 18) dX6_hours_12 rfl (by rw [bi_1 ((i_in 4 (n := 4) rfl (by decide)).mpr ⟨k, by omega, rfl⟩)]; decide) ?_
  refine ev_iload_n dX6_hours_18 rfl ?_
  refine ev_iconst (v := 0) dX6_hours_19 rfl ?_
  refine ev_bipush (v := 50) dX6_hours_20 rfl ?_
  refine ev_s3i dX6_hours_22 cs_X6_129 (Nat.le_of_ble_eq_true rfl) (by decide) (t_X6_in _ _ _) ?_
  refine ev_ifb_ne (tgt := 31) dX6_hours_25 rfl (fun h25 => ?_) (fun h25 => ?_)
  · refine ev_aload_n dX6_hours_31 rfl ?_
    refine ev_getq dX6_hours_32 fl_X6_32 rfl (hB.1 29 _ rfl) (hB.2 29 9 _ rfl) ?_
    refine ev_iconst (v := 5) dX6_hours_35 rfl ?_
    refine ev_iload_n dX6_hours_36 rfl ?_
    refine ev_imul dX6_hours_37 ?_
    refine ev_iload_n dX6_hours_38 rfl ?_
    refine ev_iadd dX6_hours_39 ?_
    refine ev_iload_n dX6_hours_40 rfl ?_
    refine ev_iast dX6_hours_41 (hB.1 37 _ rfl) (j := (5 * b) + k) (by simp [up_2, pk_mul, nI_add, n_5, n_6, n_12, n_144]) (by omega) (by decide) ?_
    refine ev_iconst (v := 1) dX6_hours_42 rfl ?_
    exact ev_ireturn (ty := .int) dX6_hours_43 rfl rfl (Or.inl ⟨h25, rfl, rfl, rfl, rfl⟩)
  · refine ev_bipush (v := (-3)) dX6_hours_28 rfl ?_
    exact ev_ireturn (ty := .int) dX6_hours_30 rfl rfl (Or.inr ⟨h25, rfl, rfl, rfl, rfl⟩)
set_option maxRecDepth 100000 in
set_option maxHeartbeats 4000000 in
theorem t_X6_promise_k {sh : SH} {mi : MI} {mr : MR} (hB : ba_c sh mr) (nb : Nat) (hnb : mi 29 1 = nI nb) (hnb10 : nb ≤ 10) (b : Nat) (hb : b < nb) (p2 p3 p4 : Int32) : EV none 2 0 0 mX6_promise 0 (en_l mX6_promise [pv_r 29, pv_i (nI b), pv_i p2, pv_i p3, pv_i p4]) [] sh mi mr (fun v_ sh_ mi_ mr_ => ((¬ (0 ≤ p2 ∧ p2 ≤ 30)) ∧ (ok_r sh mr (-3) mi) v_ sh_ mi_ mr_) ∨ ((0 ≤ p2 ∧ p2 ≤ 30) ∧ (¬ (0 ≤ p3 ∧ p3 ≤ 2000)) ∧ (ok_r sh mr (-3) mi) v_ sh_ mi_ mr_) ∨ ((0 ≤ p2 ∧ p2 ≤ 30) ∧ (0 ≤ p3 ∧ p3 ≤ 2000) ∧ (0 ≤ p4 ∧ p4 ≤ 100) ∧ (ok_r sh mr 1 (up_2 (up_2 (up_2 mi 38 b p2) 39 b p3) 40 b p4)) v_ sh_ mi_ mr_) ∨ ((0 ≤ p2 ∧ p2 ≤ 30) ∧ (0 ≤ p3 ∧ p3 ≤ 2000) ∧ (¬ (0 ≤ p4 ∧ p4 ≤ 100)) ∧ (ok_r sh mr (-3) mi) v_ sh_ mi_ mr_)) := by
  show EV none 2 0 0 mX6_promise 0 [some (pv_r 29), some (pv_i (nI b)), some (pv_i p2), some (pv_i p3), some (pv_i p4)] [] sh mi mr _
  refine ev_aload_n dX6_promise_0 rfl ?_
  refine ev_iload_n dX6_promise_1 rfl ?_
  refine ev_v1i dX6_promise_2 cv_X6_133 (hB.1 29 _ rfl) (Nat.le_of_ble_eq_true rfl) (by decide) (t_X6_isBook hB _) ?_
  refine ev_if_ne_t (tgt := 11) dX6_promise_5 rfl (by rw [bi_1 (by rw [hnb]; exact (i_cases (by omega)).mpr ⟨b, hb, rfl⟩)]; decide) ?_
  refine ev_iload_n dX6_promise_11 rfl ?_
  refine ev_iconst (v := 0) dX6_promise_12 rfl ?_
  refine ev_bipush (v := 30) dX6_promise_13 rfl ?_
  refine ev_s3i dX6_promise_15 cs_X6_129 (Nat.le_of_ble_eq_true rfl) (by decide) (t_X6_in _ _ _) ?_
  refine ev_ifb_eq (tgt := 43) dX6_promise_18 rfl (fun h18 => ?_) (fun h18 => ?_)
  · refine ev_bipush (v := (-3)) dX6_promise_43 rfl ?_
    exact ev_ireturn (ty := .int) dX6_promise_45 rfl rfl (Or.inl ⟨h18, rfl, rfl, rfl, rfl⟩)
  · refine ev_iload_n dX6_promise_21 rfl ?_
    refine ev_iconst (v := 0) dX6_promise_22 rfl ?_
    refine ev_sipush (v := 2000) dX6_promise_23 rfl ?_
    refine ev_s3i dX6_promise_26 cs_X6_129 (Nat.le_of_ble_eq_true rfl) (by decide) (t_X6_in _ _ _) ?_
    refine ev_ifb_eq (tgt := 43) dX6_promise_29 rfl (fun h29 => ?_) (fun h29 => ?_)
    · refine ev_bipush (v := (-3)) dX6_promise_43 rfl ?_
      exact ev_ireturn (ty := .int) dX6_promise_45 rfl rfl (Or.inr (Or.inl ⟨h18, h29, rfl, rfl, rfl, rfl⟩))
    · refine ev_iload dX6_promise_32 rfl ?_
      refine ev_iconst (v := 0) dX6_promise_34 rfl ?_
      refine ev_bipush (v := 100) dX6_promise_35 rfl ?_
      refine ev_s3i dX6_promise_37 cs_X6_129 (Nat.le_of_ble_eq_true rfl) (by decide) (t_X6_in _ _ _) ?_
      refine ev_ifb_ne (tgt := 46) dX6_promise_40 rfl (fun h40 => ?_) (fun h40 => ?_)
      · refine ev_aload_n dX6_promise_46 rfl ?_
        refine ev_getq dX6_promise_47 fl_X6_35 rfl (hB.1 29 _ rfl) (hB.2 29 10 _ rfl) ?_
        refine ev_iload_n dX6_promise_50 rfl ?_
        refine ev_iload_n dX6_promise_51 rfl ?_
        refine ev_iast dX6_promise_52 (hB.1 38 _ rfl) (j := b) rfl (by omega) (by decide) ?_
        refine ev_aload_n dX6_promise_53 rfl ?_
        refine ev_getq dX6_promise_54 fl_X6_38 rfl (hB.1 29 _ rfl) (hB.2 29 11 _ rfl) ?_
        refine ev_iload_n dX6_promise_57 rfl ?_
        refine ev_iload_n dX6_promise_58 rfl ?_
        refine ev_iast dX6_promise_59 (hB.1 39 _ rfl) (j := b) rfl (by omega) (by decide) ?_
        refine ev_aload_n dX6_promise_60 rfl ?_
        refine ev_getq dX6_promise_61 fl_X6_41 rfl (hB.1 29 _ rfl) (hB.2 29 12 _ rfl) ?_
        refine ev_iload_n dX6_promise_64 rfl ?_
        refine ev_iload dX6_promise_65 rfl ?_
        refine ev_iast dX6_promise_67 (hB.1 40 _ rfl) (j := b) rfl (by omega) (by decide) ?_
        refine ev_iconst (v := 1) dX6_promise_68 rfl ?_
        exact ev_ireturn (ty := .int) dX6_promise_69 rfl rfl (Or.inr (Or.inr (Or.inl ⟨h18, h29, h40, rfl, rfl, rfl, rfl⟩)))
      · refine ev_bipush (v := (-3)) dX6_promise_43 rfl ?_
        exact ev_ireturn (ty := .int) dX6_promise_45 rfl rfl (Or.inr (Or.inr (Or.inr ⟨h18, h29, h40, rfl, rfl, rfl, rfl⟩)))
set_option maxRecDepth 100000 in
set_option maxHeartbeats 4000000 in
theorem t_X6_told_o {sh : SH} {mi : MI} {mr : MR} (hB : ba_c sh mr) (nb : Nat) (hnb : mi 29 1 = nI nb) (hnb10 : nb ≤ 10) (b : Nat) (hb : b < nb) (p2 : Int32) (hv : ¬ (0 ≤ p2 ∧ p2 ≤ 3)) : EV none 2 0 0 mX6_told 0 (en_l mX6_told [pv_r 29, pv_i (nI b), pv_i p2]) [] sh mi mr (ok_r sh mr (-3) mi) := by
  show EV none 2 0 0 mX6_told 0 [some (pv_r 29), some (pv_i (nI b)), some (pv_i p2), none, none] [] sh mi mr _
  refine ev_aload_n dX6_told_0 rfl ?_
  refine ev_iload_n dX6_told_1 rfl ?_
  refine ev_v1i dX6_told_2 cv_X6_133 (hB.1 29 _ rfl) (Nat.le_of_ble_eq_true rfl) (by decide) (t_X6_isBook hB _) ?_
  refine ev_if_ne_t (tgt := 11) dX6_told_5 rfl (by rw [bi_1 (by rw [hnb]; exact (i_cases (by omega)).mpr ⟨b, hb, rfl⟩)]; decide) ?_
  refine ev_iload_n dX6_told_11 rfl ?_
  refine ev_iconst (v := 0) dX6_told_12 rfl ?_
  refine ev_iconst (v := 3) dX6_told_13 rfl ?_
  refine ev_s3i dX6_told_14 cs_X6_129 (Nat.le_of_ble_eq_true rfl) (by decide) (t_X6_in _ _ _) ?_
  refine ev_if_ne_f (tgt := 23) dX6_told_17 rfl (bi_f hv) ?_
  refine ev_bipush (v := (-3)) dX6_told_20 rfl ?_
  exact ev_ireturn (ty := .int) dX6_told_22 rfl rfl ⟨rfl, rfl, rfl, rfl⟩
set_option maxRecDepth 100000 in
set_option maxHeartbeats 4000000 in
theorem t_X6_told_0 {sh : SH} {mi : MI} {mr : MR} (hB : ba_c sh mr) (nb : Nat) (hnb : mi 29 1 = nI nb) (hnb10 : nb ≤ 10) (b : Nat) (hb : b < nb) : EV none 2 0 0 mX6_told 0 (en_l mX6_told [pv_r 29, pv_i (nI b), pv_i 0]) [] sh mi mr (ok_r sh mr (mi 30 b) mi) := by
  show EV none 2 0 0 mX6_told 0 [some (pv_r 29), some (pv_i (nI b)), some (pv_i 0), none, none] [] sh mi mr _
  refine ev_aload_n dX6_told_0 rfl ?_
  refine ev_iload_n dX6_told_1 rfl ?_
  refine ev_v1i dX6_told_2 cv_X6_133 (hB.1 29 _ rfl) (Nat.le_of_ble_eq_true rfl) (by decide) (t_X6_isBook hB _) ?_
  refine ev_if_ne_t (tgt := 11) dX6_told_5 rfl (by rw [bi_1 (by rw [hnb]; exact (i_cases (by omega)).mpr ⟨b, hb, rfl⟩)]; decide) ?_
  refine ev_iload_n dX6_told_11 rfl ?_
  refine ev_iconst (v := 0) dX6_told_12 rfl ?_
  refine ev_iconst (v := 3) dX6_told_13 rfl ?_
  refine ev_s3i dX6_told_14 cs_X6_129 (Nat.le_of_ble_eq_true rfl) (by decide) (t_X6_in _ _ _) ?_
  refine ev_if_ne_t (tgt := 23) dX6_told_17 rfl (by rw [bi_1 (by decide)]; decide) ?_
  refine ev_iconst (v := 0) dX6_told_23 rfl ?_
  refine ev_istore_n dX6_told_24 (by decide) ?_
  refine ev_iconst (v := 0) dX6_told_25 rfl ?_
  refine ev_istore dX6_told_26 (by decide) ?_
  refine ev_iload dX6_told_28 rfl ?_
  refine ev_aload_n dX6_told_30 rfl ?_
  refine ev_getq dX6_told_31 fl_X6_13 rfl (hB.1 29 _ rfl) (hB.2 29 3 _ rfl) ?_
  refine ev_iload_n dX6_told_34 rfl ?_
  refine ev_iald dX6_told_35 (hB.1 31 _ rfl) (j := b) rfl (by omega) (by decide) ?_
  refine ev_icmp_ge (tgt := 88) dX6_told_36 rfl (fun h36 => ?_) (fun h36 => ?_)
  · refine ev_iload_n dX6_told_88 rfl ?_
    refine ev_if_ne_f (tgt := 101) dX6_told_89 rfl (by decide) ?_
    refine ev_aload_n dX6_told_92 rfl ?_
    refine ev_getq dX6_told_93 fl_X6_7 rfl (hB.1 29 _ rfl) (hB.2 29 2 _ rfl) ?_
    refine ev_iload_n dX6_told_96 rfl ?_
    refine ev_iald dX6_told_97 (hB.1 30 _ rfl) (j := b) rfl (by omega) (by decide) ?_
    refine ev_goto (tgt := 116) dX6_told_98 rfl ?_
    exact ev_ireturn (ty := .int) dX6_told_116 rfl rfl ⟨rfl, rfl, rfl, rfl⟩
  · refine ev_iload_n dX6_told_39 rfl ?_
    refine ev_iconst (v := 1) dX6_told_40 rfl ?_
    refine ev_icmp_le_t (tgt := 88) dX6_told_41 rfl (by decide) ?_
    refine ev_iload_n dX6_told_88 rfl ?_
    refine ev_if_ne_f (tgt := 101) dX6_told_89 rfl (by decide) ?_
    refine ev_aload_n dX6_told_92 rfl ?_
    refine ev_getq dX6_told_93 fl_X6_7 rfl (hB.1 29 _ rfl) (hB.2 29 2 _ rfl) ?_
    refine ev_iload_n dX6_told_96 rfl ?_
    refine ev_iald dX6_told_97 (hB.1 30 _ rfl) (j := b) rfl (by omega) (by decide) ?_
    refine ev_goto (tgt := 116) dX6_told_98 rfl ?_
    exact ev_ireturn (ty := .int) dX6_told_116 rfl rfl ⟨rfl, rfl, rfl, rfl⟩
set_option maxRecDepth 100000 in
set_option maxHeartbeats 4000000 in
theorem t_X6_told_1 {sh : SH} {mi : MI} {mr : MR} (hB : ba_c sh mr) (nb : Nat) (hnb : mi 29 1 = nI nb) (hnb10 : nb ≤ 10) (b : Nat) (hb : b < nb) : EV none 2 0 0 mX6_told 0 (en_l mX6_told [pv_r 29, pv_i (nI b), pv_i 1]) [] sh mi mr (ok_r sh mr (mi 31 b) mi) := by
  show EV none 2 0 0 mX6_told 0 [some (pv_r 29), some (pv_i (nI b)), some (pv_i 1), none, none] [] sh mi mr _
  refine ev_aload_n dX6_told_0 rfl ?_
  refine ev_iload_n dX6_told_1 rfl ?_
  refine ev_v1i dX6_told_2 cv_X6_133 (hB.1 29 _ rfl) (Nat.le_of_ble_eq_true rfl) (by decide) (t_X6_isBook hB _) ?_
  refine ev_if_ne_t (tgt := 11) dX6_told_5 rfl (by rw [bi_1 (by rw [hnb]; exact (i_cases (by omega)).mpr ⟨b, hb, rfl⟩)]; decide) ?_
  refine ev_iload_n dX6_told_11 rfl ?_
  refine ev_iconst (v := 0) dX6_told_12 rfl ?_
  refine ev_iconst (v := 3) dX6_told_13 rfl ?_
  refine ev_s3i dX6_told_14 cs_X6_129 (Nat.le_of_ble_eq_true rfl) (by decide) (t_X6_in _ _ _) ?_
  refine ev_if_ne_t (tgt := 23) dX6_told_17 rfl (by rw [bi_1 (by decide)]; decide) ?_
  refine ev_iconst (v := 0) dX6_told_23 rfl ?_
  refine ev_istore_n dX6_told_24 (by decide) ?_
  refine ev_iconst (v := 0) dX6_told_25 rfl ?_
  refine ev_istore dX6_told_26 (by decide) ?_
  refine ev_iload dX6_told_28 rfl ?_
  refine ev_aload_n dX6_told_30 rfl ?_
  refine ev_getq dX6_told_31 fl_X6_13 rfl (hB.1 29 _ rfl) (hB.2 29 3 _ rfl) ?_
  refine ev_iload_n dX6_told_34 rfl ?_
  refine ev_iald dX6_told_35 (hB.1 31 _ rfl) (j := b) rfl (by omega) (by decide) ?_
  refine ev_icmp_ge (tgt := 88) dX6_told_36 rfl (fun h36 => ?_) (fun h36 => ?_)
  · refine ev_iload_n dX6_told_88 rfl ?_
    refine ev_if_ne_t (tgt := 101) dX6_told_89 rfl (by decide) ?_
    refine ev_iload_n dX6_told_101 rfl ?_
    refine ev_iconst (v := 1) dX6_told_102 rfl ?_
    refine ev_icmp_ne_f (tgt := 115) dX6_told_103 rfl (by decide) ?_
    refine ev_aload_n dX6_told_106 rfl ?_
    refine ev_getq dX6_told_107 fl_X6_13 rfl (hB.1 29 _ rfl) (hB.2 29 3 _ rfl) ?_
    refine ev_iload_n dX6_told_110 rfl ?_
    refine ev_iald dX6_told_111 (hB.1 31 _ rfl) (j := b) rfl (by omega) (by decide) ?_
    refine ev_goto (tgt := 116) dX6_told_112 rfl ?_
    exact ev_ireturn (ty := .int) dX6_told_116 rfl rfl ⟨rfl, rfl, rfl, rfl⟩
  · refine ev_iload_n dX6_told_39 rfl ?_
    refine ev_iconst (v := 1) dX6_told_40 rfl ?_
    refine ev_icmp_le_t (tgt := 88) dX6_told_41 rfl (by decide) ?_
    refine ev_iload_n dX6_told_88 rfl ?_
    refine ev_if_ne_t (tgt := 101) dX6_told_89 rfl (by decide) ?_
    refine ev_iload_n dX6_told_101 rfl ?_
    refine ev_iconst (v := 1) dX6_told_102 rfl ?_
    refine ev_icmp_ne_f (tgt := 115) dX6_told_103 rfl (by decide) ?_
    refine ev_aload_n dX6_told_106 rfl ?_
    refine ev_getq dX6_told_107 fl_X6_13 rfl (hB.1 29 _ rfl) (hB.2 29 3 _ rfl) ?_
    refine ev_iload_n dX6_told_110 rfl ?_
    refine ev_iald dX6_told_111 (hB.1 31 _ rfl) (j := b) rfl (by omega) (by decide) ?_
    refine ev_goto (tgt := 116) dX6_told_112 rfl ?_
    exact ev_ireturn (ty := .int) dX6_told_116 rfl rfl ⟨rfl, rfl, rfl, rfl⟩
set_option maxRecDepth 100000 in
set_option maxHeartbeats 4000000 in
theorem lp_X6_told_2 {sh : SH} {mi : MI} {mr : MR} (hB : ba_c sh mr) (nb : Nat) (hnb : mi 29 1 = nI nb) (hnb10 : nb ≤ 10) (b : Nat) (hb : b < nb) (g : Nat) (hg : mi 31 b = nI g) (hg6 : g ≤ 6) : ∀ i, i ≤ g → EV none 2 0 0 mX6_told 28 [some (pv_r 29), some (pv_i (nI b)), some (pv_i 2), some (pv_i (sm_c (fun k => mn (mi 33 (6 * b + k)) 16) i)), some (pv_i (nI i))] [] sh mi mr (ok_r sh mr (sm_c (fun k => mn (mi 33 (6 * b + k)) 16) g) mi) := by
  refine lp_i g (fun i hi ih => ?_)
  refine ev_iload dX6_told_28 rfl ?_
  refine ev_aload_n dX6_told_30 rfl ?_
  refine ev_getq dX6_told_31 fl_X6_13 rfl (hB.1 29 _ rfl) (hB.2 29 3 _ rfl) ?_
  refine ev_iload_n dX6_told_34 rfl ?_
  refine ev_iald dX6_told_35 (hB.1 31 _ rfl) (j := b) rfl (by omega) (by decide) ?_
  refine ev_icmp_ge (tgt := 88) dX6_told_36 rfl (fun h36 => ?_) (fun h36 => ?_)
  · have hin : i = g := by have := (nl_le hg rfl (by omega) (by omega)).mp h36; omega
    subst hin
    refine ev_iload_n dX6_told_88 rfl ?_
    refine ev_if_ne_t (tgt := 101) dX6_told_89 rfl (by decide) ?_
    refine ev_iload_n dX6_told_101 rfl ?_
    refine ev_iconst (v := 1) dX6_told_102 rfl ?_
    refine ev_icmp_ne_t (tgt := 115) dX6_told_103 rfl (by decide) ?_
    refine ev_iload_n dX6_told_115 rfl ?_
    exact ev_ireturn (ty := .int) dX6_told_116 rfl rfl ⟨rfl, rfl, rfl, rfl⟩
  · have hlt : i < g := by have := (not_congr (nl_le hg rfl (by omega) (by omega))).mp h36; omega
    refine ev_iload_n dX6_told_39 rfl ?_
    refine ev_iconst (v := 1) dX6_told_40 rfl ?_
    refine ev_icmp_le_f (tgt := 88) dX6_told_41 rfl (by decide) ?_
    refine ev_iload_n dX6_told_44 rfl ?_
    refine ev_iload_n dX6_told_45 rfl ?_
    refine ev_iconst (v := 2) dX6_told_46 rfl ?_
    refine ev_icmp_ne_f (tgt := 68) dX6_told_47 rfl (by decide) ?_
    refine ev_aload_n dX6_told_50 rfl ?_
    refine ev_getq dX6_told_51 fl_X6_19 rfl (hB.1 29 _ rfl) (hB.2 29 5 _ rfl) ?_
    refine ev_bipush (v := 6) dX6_told_54 rfl ?_
    refine ev_iload_n dX6_told_56 rfl ?_
    refine ev_imul dX6_told_57 ?_
    refine ev_iload dX6_told_58 rfl ?_
    refine ev_iadd dX6_told_60 ?_
    refine ev_iald dX6_told_61 (hB.1 33 _ rfl) (j := (6 * b) + i) (by simp [up_2, pk_mul, nI_add, n_5, n_6, n_12, n_144]) (by omega) (by decide) ?_
    refine ev_s1i dX6_told_62 cs_X6_141 (Nat.le_of_ble_eq_true rfl) (by decide) (t_X6_many _) ?_
    refine ev_goto (tgt := 80) dX6_told_65 rfl ?_
    refine ev_iadd dX6_told_80 ?_
    refine ev_istore_n dX6_told_81 (by decide) ?_
    refine ev_iincN dX6_told_82 rfl (by decide) ?_
    refine ev_goto (tgt := 28) dX6_told_85 rfl ?_
    exact ih hlt
set_option maxRecDepth 100000 in
set_option maxHeartbeats 4000000 in
theorem t_X6_told_2 {sh : SH} {mi : MI} {mr : MR} (hB : ba_c sh mr) (nb : Nat) (hnb : mi 29 1 = nI nb) (hnb10 : nb ≤ 10) (b : Nat) (hb : b < nb) (g : Nat) (hg : mi 31 b = nI g) (hg6 : g ≤ 6) : EV none 2 0 0 mX6_told 0 (en_l mX6_told [pv_r 29, pv_i (nI b), pv_i 2]) [] sh mi mr (ok_r sh mr (sm_c (fun k => mn (mi 33 (6 * b + k)) 16) g) mi) := by
  show EV none 2 0 0 mX6_told 0 [some (pv_r 29), some (pv_i (nI b)), some (pv_i 2), none, none] [] sh mi mr _
  refine ev_aload_n dX6_told_0 rfl ?_
  refine ev_iload_n dX6_told_1 rfl ?_
  refine ev_v1i dX6_told_2 cv_X6_133 (hB.1 29 _ rfl) (Nat.le_of_ble_eq_true rfl) (by decide) (t_X6_isBook hB _) ?_
  refine ev_if_ne_t (tgt := 11) dX6_told_5 rfl (by rw [bi_1 (by rw [hnb]; exact (i_cases (by omega)).mpr ⟨b, hb, rfl⟩)]; decide) ?_
  refine ev_iload_n dX6_told_11 rfl ?_
  refine ev_iconst (v := 0) dX6_told_12 rfl ?_
  refine ev_iconst (v := 3) dX6_told_13 rfl ?_
  refine ev_s3i dX6_told_14 cs_X6_129 (Nat.le_of_ble_eq_true rfl) (by decide) (t_X6_in _ _ _) ?_
  refine ev_if_ne_t (tgt := 23) dX6_told_17 rfl (by rw [bi_1 (by decide)]; decide) ?_
  refine ev_iconst (v := 0) dX6_told_23 rfl ?_
  refine ev_istore_n dX6_told_24 (by decide) ?_
  refine ev_iconst (v := 0) dX6_told_25 rfl ?_
  refine ev_istore dX6_told_26 (by decide) ?_
  exact lp_X6_told_2 hB nb hnb hnb10 b hb g hg hg6 0 (Nat.zero_le g)
set_option maxRecDepth 100000 in
set_option maxHeartbeats 4000000 in
theorem lp_X6_told_3 {sh : SH} {mi : MI} {mr : MR} (hB : ba_c sh mr) (nb : Nat) (hnb : mi 29 1 = nI nb) (hnb10 : nb ≤ 10) (b : Nat) (hb : b < nb) (g : Nat) (hg : mi 31 b = nI g) (hg6 : g ≤ 6) : ∀ i, i ≤ g → EV none 2 0 0 mX6_told 28 [some (pv_r 29), some (pv_i (nI b)), some (pv_i 3), some (pv_i (sm_c (fun k => mi 32 (6 * b + k)) i)), some (pv_i (nI i))] [] sh mi mr (ok_r sh mr (sm_c (fun k => mi 32 (6 * b + k)) g) mi) := by
  refine lp_i g (fun i hi ih => ?_)
  refine ev_iload dX6_told_28 rfl ?_
  refine ev_aload_n dX6_told_30 rfl ?_
  refine ev_getq dX6_told_31 fl_X6_13 rfl (hB.1 29 _ rfl) (hB.2 29 3 _ rfl) ?_
  refine ev_iload_n dX6_told_34 rfl ?_
  refine ev_iald dX6_told_35 (hB.1 31 _ rfl) (j := b) rfl (by omega) (by decide) ?_
  refine ev_icmp_ge (tgt := 88) dX6_told_36 rfl (fun h36 => ?_) (fun h36 => ?_)
  · have hin : i = g := by have := (nl_le hg rfl (by omega) (by omega)).mp h36; omega
    subst hin
    refine ev_iload_n dX6_told_88 rfl ?_
    refine ev_if_ne_t (tgt := 101) dX6_told_89 rfl (by decide) ?_
    refine ev_iload_n dX6_told_101 rfl ?_
    refine ev_iconst (v := 1) dX6_told_102 rfl ?_
    refine ev_icmp_ne_t (tgt := 115) dX6_told_103 rfl (by decide) ?_
    refine ev_iload_n dX6_told_115 rfl ?_
    exact ev_ireturn (ty := .int) dX6_told_116 rfl rfl ⟨rfl, rfl, rfl, rfl⟩
  · have hlt : i < g := by have := (not_congr (nl_le hg rfl (by omega) (by omega))).mp h36; omega
    refine ev_iload_n dX6_told_39 rfl ?_
    refine ev_iconst (v := 1) dX6_told_40 rfl ?_
    refine ev_icmp_le_f (tgt := 88) dX6_told_41 rfl (by decide) ?_
    refine ev_iload_n dX6_told_44 rfl ?_
    refine ev_iload_n dX6_told_45 rfl ?_
    refine ev_iconst (v := 2) dX6_told_46 rfl ?_
    refine ev_icmp_ne_t (tgt := 68) dX6_told_47 rfl (by decide) ?_
    refine ev_aload_n dX6_told_68 rfl ?_
    refine ev_getq dX6_told_69 fl_X6_16 rfl (hB.1 29 _ rfl) (hB.2 29 4 _ rfl) ?_
    refine ev_bipush (v := 6) dX6_told_72 rfl ?_
    refine ev_iload_n dX6_told_74 rfl ?_
    refine ev_imul dX6_told_75 ?_
    refine ev_iload dX6_told_76 rfl ?_
    refine ev_iadd dX6_told_78 ?_
    refine ev_iald dX6_told_79 (hB.1 32 _ rfl) (j := (6 * b) + i) (by simp [up_2, pk_mul, nI_add, n_5, n_6, n_12, n_144]) (by omega) (by decide) ?_
    refine ev_iadd dX6_told_80 ?_
    refine ev_istore_n dX6_told_81 (by decide) ?_
    refine ev_iincN dX6_told_82 rfl (by decide) ?_
    refine ev_goto (tgt := 28) dX6_told_85 rfl ?_
    exact ih hlt
set_option maxRecDepth 100000 in
set_option maxHeartbeats 4000000 in
theorem t_X6_told_3 {sh : SH} {mi : MI} {mr : MR} (hB : ba_c sh mr) (nb : Nat) (hnb : mi 29 1 = nI nb) (hnb10 : nb ≤ 10) (b : Nat) (hb : b < nb) (g : Nat) (hg : mi 31 b = nI g) (hg6 : g ≤ 6) : EV none 2 0 0 mX6_told 0 (en_l mX6_told [pv_r 29, pv_i (nI b), pv_i 3]) [] sh mi mr (ok_r sh mr (sm_c (fun k => mi 32 (6 * b + k)) g) mi) := by
  show EV none 2 0 0 mX6_told 0 [some (pv_r 29), some (pv_i (nI b)), some (pv_i 3), none, none] [] sh mi mr _
  refine ev_aload_n dX6_told_0 rfl ?_
  refine ev_iload_n dX6_told_1 rfl ?_
  refine ev_v1i dX6_told_2 cv_X6_133 (hB.1 29 _ rfl) (Nat.le_of_ble_eq_true rfl) (by decide) (t_X6_isBook hB _) ?_
  refine ev_if_ne_t (tgt := 11) dX6_told_5 rfl (by rw [bi_1 (by rw [hnb]; exact (i_cases (by omega)).mpr ⟨b, hb, rfl⟩)]; decide) ?_
  refine ev_iload_n dX6_told_11 rfl ?_
  refine ev_iconst (v := 0) dX6_told_12 rfl ?_
  refine ev_iconst (v := 3) dX6_told_13 rfl ?_
  refine ev_s3i dX6_told_14 cs_X6_129 (Nat.le_of_ble_eq_true rfl) (by decide) (t_X6_in _ _ _) ?_
  refine ev_if_ne_t (tgt := 23) dX6_told_17 rfl (by rw [bi_1 (by decide)]; decide) ?_
  refine ev_iconst (v := 0) dX6_told_23 rfl ?_
  refine ev_istore_n dX6_told_24 (by decide) ?_
  refine ev_iconst (v := 0) dX6_told_25 rfl ?_
  refine ev_istore dX6_told_26 (by decide) ?_
  exact lp_X6_told_3 hB nb hnb hnb10 b hb g hg hg6 0 (Nat.zero_le g)
theorem all_s {P : Nat → Prop} {i : Nat} (h : ∀ k, k < i → P k) (hi : P i) : ∀ k, k < i + 1 → P k := fun k hk => by
  by_cases e : k = i
  · subst e; exact hi
  · exact h k (by omega)
set_option maxRecDepth 100000 in
set_option maxHeartbeats 4000000 in
theorem lp_X6_pass2 {sh : SH} {mr : MR} (M0 : MI) (hB : ba_c sh mr) (nb : Nat) (hnb : M0 29 1 = nI nb) (hnb10 : nb ≤ 10) (b : Nat) (hb : b < nb) (p2 : Int32) : ∀ i, i ≤ 6 → EV none 2 0 0 mX6_pass 135 [some (pv_r 29), some (pv_i (nI b)), some (pv_i p2), some (pv_i (nI i))] [] sh (fl_r M0 34 (6 * b) i 0) mr (ok_r sh mr ((fl_r M0 34 (6 * b) 6 0) 30 b) (fl_r M0 34 (6 * b) 6 0)) := by
  refine lp_i 6 (fun i hi ih => ?_)
  refine ev_iload_n dX6_pass_135 rfl ?_
  refine ev_bipush (v := 6) dX6_pass_136 rfl ?_
  refine ev_icmp_ge (tgt := 159) dX6_pass_138 rfl (fun h138 => ?_) (fun h138 => ?_)
  · have hin : i = 6 := by have := (nl_le (x := 6) (a := 6) rfl (b := i) rfl (by omega) (by omega)).mp h138; omega
    subst hin
    refine ev_aload_n dX6_pass_159 rfl ?_
    refine ev_getq dX6_pass_160 fl_X6_7 rfl (hB.1 29 _ rfl) (hB.2 29 2 _ rfl) ?_
    refine ev_iload_n dX6_pass_163 rfl ?_
    refine ev_iald dX6_pass_164 (hB.1 30 _ rfl) (j := b) rfl (by omega) (by decide) ?_
    exact ev_ireturn (ty := .int) dX6_pass_165 rfl rfl ⟨rfl, rfl, rfl, rfl⟩
  · have hlt : i < 6 := by have := (not_congr (nl_le (x := 6) (a := 6) rfl (b := i) rfl (by omega) (by omega))).mp h138; omega
    refine ev_aload_n dX6_pass_141 rfl ?_
    refine ev_getq dX6_pass_142 fl_X6_22 rfl (hB.1 29 _ rfl) (hB.2 29 6 _ rfl) ?_
    refine ev_bipush (v := 6) dX6_pass_145 rfl ?_
    refine ev_iload_n dX6_pass_147 rfl ?_
    refine ev_imul dX6_pass_148 ?_
    refine ev_iload_n dX6_pass_149 rfl ?_
    refine ev_iadd dX6_pass_150 ?_
    refine ev_iconst (v := 0) dX6_pass_151 rfl ?_
    refine ev_zast dX6_pass_152 (hB.1 34 _ rfl) (j := (6 * b) + i) (by simp [up_2, pk_mul, nI_add, n_5, n_6, n_12, n_144]) (by omega) (by decide) rfl ?_
    refine ev_iincN dX6_pass_153 rfl (by decide) ?_
    refine ev_goto (tgt := 135) dX6_pass_156 rfl ?_
    have q := ih hlt
    rw [← fl_s] at q
    exact q
set_option maxRecDepth 100000 in
set_option maxHeartbeats 4000000 in
theorem lp_X6_pass {sh : SH} {mi : MI} {mr : MR} (hB : ba_c sh mr) (nb : Nat) (hnb : mi 29 1 = nI nb) (hnb10 : nb ≤ 10) (b : Nat) (hb : b < nb) (g : Nat) (hg : mi 31 b = nI g) (hg6 : g ≤ 6) (m : Nat) (hm : mi 29 13 = nI m) (hm50 : m < 50) : ∀ i, i ≤ g → EV none 2 0 0 mX6_pass 38 [some (pv_r 29), some (pv_i (nI b)), some (pv_i (bi ((¬ 5 ≤ (mi 30 b) ∧ ¬ (mi 31 b) ≤ 0) ∧ ∀ k, k < i → ¬ mi 34 (6 * b + k) = 0))), some (pv_i (nI i))] [] sh mi mr (fun v_ sh_ mi_ mr_ => ((¬ ((¬ 5 ≤ (mi 30 b) ∧ ¬ (mi 31 b) ≤ 0) ∧ ∀ k, k < g → ¬ mi 34 (6 * b + k) = 0)) ∧ (ok_r sh mr (-4) mi) v_ sh_ mi_ mr_) ∨ (((¬ 5 ≤ (mi 30 b) ∧ ¬ (mi 31 b) ≤ 0) ∧ ∀ k, k < g → ¬ mi 34 (6 * b + k) = 0) ∧ (ok_r sh mr ((fl_r (up_2 (up_2 (up_2 (up_2 mi 41 m (mi 30 b)) 42 m ((up_2 mi 41 m (mi 30 b)) 29 0)) 29 13 (((up_2 (up_2 mi 41 m (mi 30 b)) 42 m ((up_2 mi 41 m (mi 30 b)) 29 0)) 29 13) + 1)) 30 b (((up_2 (up_2 (up_2 mi 41 m (mi 30 b)) 42 m ((up_2 mi 41 m (mi 30 b)) 29 0)) 29 13 (((up_2 (up_2 mi 41 m (mi 30 b)) 42 m ((up_2 mi 41 m (mi 30 b)) 29 0)) 29 13) + 1)) 30 b) + 1)) 34 (6 * b) 6 0) 30 b) (fl_r (up_2 (up_2 (up_2 (up_2 mi 41 m (mi 30 b)) 42 m ((up_2 mi 41 m (mi 30 b)) 29 0)) 29 13 (((up_2 (up_2 mi 41 m (mi 30 b)) 42 m ((up_2 mi 41 m (mi 30 b)) 29 0)) 29 13) + 1)) 30 b (((up_2 (up_2 (up_2 mi 41 m (mi 30 b)) 42 m ((up_2 mi 41 m (mi 30 b)) 29 0)) 29 13 (((up_2 (up_2 mi 41 m (mi 30 b)) 42 m ((up_2 mi 41 m (mi 30 b)) 29 0)) 29 13) + 1)) 30 b) + 1)) 34 (6 * b) 6 0)) v_ sh_ mi_ mr_)) := by
  refine lp_i g (fun i hi ih => ?_)
  refine ev_iload_n dX6_pass_38 rfl ?_
  refine ev_aload_n dX6_pass_39 rfl ?_
  refine ev_getq dX6_pass_40 fl_X6_13 rfl (hB.1 29 _ rfl) (hB.2 29 3 _ rfl) ?_
  refine ev_iload_n dX6_pass_43 rfl ?_
  refine ev_iald dX6_pass_44 (hB.1 31 _ rfl) (j := b) rfl (by omega) (by decide) ?_
  refine ev_icmp_ge (tgt := 78) dX6_pass_45 rfl (fun h45 => ?_) (fun h45 => ?_)
  · have hin : i = g := by have := (nl_le hg rfl (by omega) (by omega)).mp h45; omega
    subst hin
    refine ev_iload_n dX6_pass_78 rfl ?_
    refine ev_ifb_ne (tgt := 85) dX6_pass_79 rfl (fun h79 => ?_) (fun h79 => ?_)
    · refine ev_aload_n dX6_pass_85 rfl ?_
      refine ev_getq dX6_pass_86 fl_X6_44 rfl (hB.1 29 _ rfl) (hB.2 29 14 _ rfl) ?_
      refine ev_aload_n dX6_pass_89 rfl ?_
      refine ev_geti dX6_pass_90 fl_X6_145 rfl (hB.1 29 _ rfl) ?_
      refine ev_aload_n dX6_pass_93 rfl ?_
      refine ev_getq dX6_pass_94 fl_X6_7 rfl (hB.1 29 _ rfl) (hB.2 29 2 _ rfl) ?_
      refine ev_iload_n dX6_pass_97 rfl ?_
      refine ev_iald dX6_pass_98 (hB.1 30 _ rfl) (j := b) rfl (by omega) (by decide) ?_
      refine ev_iast dX6_pass_99 (hB.1 41 _ rfl) (j := m) (by simp [up_2, pk_mul, nI_add, n_5, n_6, n_12, n_144, hm]) (by omega) (by decide) ?_
      refine ev_aload_n dX6_pass_100 rfl ?_
      refine ev_getq dX6_pass_101 fl_X6_47 rfl (hB.1 29 _ rfl) (hB.2 29 15 _ rfl) ?_
      refine ev_aload_n dX6_pass_104 rfl ?_
      refine ev_geti dX6_pass_105 fl_X6_145 rfl (hB.1 29 _ rfl) ?_
      refine ev_aload_n dX6_pass_108 rfl ?_
      refine ev_geti dX6_pass_109 fl_X6_148 rfl (hB.1 29 _ rfl) ?_
      refine ev_iast dX6_pass_112 (hB.1 42 _ rfl) (j := m) (by simp [up_2, pk_mul, nI_add, n_5, n_6, n_12, n_144, hm]) (by omega) (by decide) ?_
      refine ev_aload_n dX6_pass_113 rfl ?_
      refine ev_dup dX6_pass_114 ?_
      refine ev_geti dX6_pass_115 fl_X6_145 rfl (hB.1 29 _ rfl) ?_
      refine ev_iconst (v := 1) dX6_pass_118 rfl ?_
      refine ev_iadd dX6_pass_119 ?_
      refine ev_puti dX6_pass_120 fl_X6_145 rfl rfl (hB.1 29 _ rfl) ?_
      refine ev_aload_n dX6_pass_123 rfl ?_
      refine ev_getq dX6_pass_124 fl_X6_7 rfl (hB.1 29 _ rfl) (hB.2 29 2 _ rfl) ?_
      refine ev_iload_n dX6_pass_127 rfl ?_
      refine ev_dup2 dX6_pass_128 ?_
      refine ev_iald dX6_pass_129 (hB.1 30 _ rfl) (j := b) rfl (by omega) (by decide) ?_
      refine ev_iconst (v := 1) dX6_pass_130 rfl ?_
      refine ev_iadd dX6_pass_131 ?_
      refine ev_iast dX6_pass_132 (hB.1 30 _ rfl) (j := b) rfl (by omega) (by decide) ?_
      refine ev_iconst (v := 0) dX6_pass_133 rfl ?_
      refine ev_istore_n dX6_pass_134 (by decide) ?_
      have q := lp_X6_pass2 (up_2 (up_2 (up_2 (up_2 mi 41 m (mi 30 b)) 42 m ((up_2 mi 41 m (mi 30 b)) 29 0)) 29 13 (((up_2 (up_2 mi 41 m (mi 30 b)) 42 m ((up_2 mi 41 m (mi 30 b)) 29 0)) 29 13) + 1)) 30 b (((up_2 (up_2 (up_2 mi 41 m (mi 30 b)) 42 m ((up_2 mi 41 m (mi 30 b)) 29 0)) 29 13 (((up_2 (up_2 mi 41 m (mi 30 b)) 42 m ((up_2 mi 41 m (mi 30 b)) 29 0)) 29 13) + 1)) 30 b) + 1)) (sh := sh) (mr := mr) hB nb (by simp [up_2, hnb]) hnb10 b hb (bi ((¬ 5 ≤ (mi 30 b) ∧ ¬ (mi 31 b) ≤ 0) ∧ ∀ k, k < i → ¬ mi 34 (6 * b + k) = 0)) 0 (by decide)
      rw [fl_0] at q
      exact ev_post (fun v_ s_ m_ r_ h_ => Or.inr ⟨h79, h_⟩) q
    · refine ev_bipush (v := (-4)) dX6_pass_82 rfl ?_
      exact ev_ireturn (ty := .int) dX6_pass_84 rfl rfl (Or.inl ⟨h79, rfl, rfl, rfl, rfl⟩)
  · have hlt : i < g := by have := (not_congr (nl_le hg rfl (by omega) (by omega))).mp h45; omega
    refine ev_iload_n dX6_pass_48 rfl ?_
    refine ev_ifb_eq (tgt := 70) dX6_pass_49 rfl (fun h49 => ?_) (fun h49 => ?_)
    · refine ev_iconst (v := 0) dX6_pass_70 rfl ?_
      refine ev_istore_n dX6_pass_71 (by decide) ?_
      refine ev_iincN dX6_pass_72 rfl (by decide) ?_
      refine ev_goto (tgt := 38) dX6_pass_75 rfl ?_
      have q := ih hlt
      rw [show bi ((¬ 5 ≤ (mi 30 b) ∧ ¬ (mi 31 b) ≤ 0) ∧ ∀ k, k < (i + 1) → ¬ mi 34 (6 * b + k) = 0) = _ from bi_f (fun q => h49 ⟨q.1, fun k hk => q.2 k (by omega)⟩)] at q
      exact q
    · refine ev_aload_n dX6_pass_52 rfl ?_
      refine ev_getq dX6_pass_53 fl_X6_22 rfl (hB.1 29 _ rfl) (hB.2 29 6 _ rfl) ?_
      refine ev_bipush (v := 6) dX6_pass_56 rfl ?_
      refine ev_iload_n dX6_pass_58 rfl ?_
      refine ev_imul dX6_pass_59 ?_
      refine ev_iload_n dX6_pass_60 rfl ?_
      refine ev_iadd dX6_pass_61 ?_
      refine ev_zald dX6_pass_62 (hB.1 34 _ rfl) (j := (6 * b) + i) (by simp [up_2, pk_mul, nI_add, n_5, n_6, n_12, n_144, hm]) (by omega) (by decide) ?_
      refine ev_if_eq (tgt := 70) dX6_pass_63 rfl (fun h63 => ?_) (fun h63 => ?_)
      · refine ev_iconst (v := 0) dX6_pass_70 rfl ?_
        refine ev_istore_n dX6_pass_71 (by decide) ?_
        refine ev_iincN dX6_pass_72 rfl (by decide) ?_
        refine ev_goto (tgt := 38) dX6_pass_75 rfl ?_
        have q := ih hlt
        rw [show bi ((¬ 5 ≤ (mi 30 b) ∧ ¬ (mi 31 b) ≤ 0) ∧ ∀ k, k < (i + 1) → ¬ mi 34 (6 * b + k) = 0) = _ from bi_f (fun q => q.2 i (by omega) h63)] at q
        exact q
      · refine ev_iconst (v := 1) dX6_pass_66 rfl ?_
        refine ev_goto (tgt := 71) dX6_pass_67 rfl ?_
        refine ev_istore_n dX6_pass_71 (by decide) ?_
        refine ev_iincN dX6_pass_72 rfl (by decide) ?_
        refine ev_goto (tgt := 38) dX6_pass_75 rfl ?_
        have q := ih hlt
        rw [show bi ((¬ 5 ≤ (mi 30 b) ∧ ¬ (mi 31 b) ≤ 0) ∧ ∀ k, k < (i + 1) → ¬ mi 34 (6 * b + k) = 0) = _ from bi_1 ⟨h49.1, all_s h49.2 h63⟩] at q
        exact q
set_option maxRecDepth 100000 in
set_option maxHeartbeats 4000000 in
theorem t_X6_pass_k {sh : SH} {mi : MI} {mr : MR} (hB : ba_c sh mr) (nb : Nat) (hnb : mi 29 1 = nI nb) (hnb10 : nb ≤ 10) (b : Nat) (hb : b < nb) (g : Nat) (hg : mi 31 b = nI g) (hg6 : g ≤ 6) (m : Nat) (hm : mi 29 13 = nI m) (hm50 : m < 50) : EV none 2 0 0 mX6_pass 0 (en_l mX6_pass [pv_r 29, pv_i (nI b)]) [] sh mi mr (fun v_ sh_ mi_ mr_ => ((¬ ((¬ 5 ≤ (mi 30 b) ∧ ¬ (mi 31 b) ≤ 0) ∧ ∀ k, k < g → ¬ mi 34 (6 * b + k) = 0)) ∧ (ok_r sh mr (-4) mi) v_ sh_ mi_ mr_) ∨ (((¬ 5 ≤ (mi 30 b) ∧ ¬ (mi 31 b) ≤ 0) ∧ ∀ k, k < g → ¬ mi 34 (6 * b + k) = 0) ∧ (ok_r sh mr ((fl_r (up_2 (up_2 (up_2 (up_2 mi 41 m (mi 30 b)) 42 m ((up_2 mi 41 m (mi 30 b)) 29 0)) 29 13 (((up_2 (up_2 mi 41 m (mi 30 b)) 42 m ((up_2 mi 41 m (mi 30 b)) 29 0)) 29 13) + 1)) 30 b (((up_2 (up_2 (up_2 mi 41 m (mi 30 b)) 42 m ((up_2 mi 41 m (mi 30 b)) 29 0)) 29 13 (((up_2 (up_2 mi 41 m (mi 30 b)) 42 m ((up_2 mi 41 m (mi 30 b)) 29 0)) 29 13) + 1)) 30 b) + 1)) 34 (6 * b) 6 0) 30 b) (fl_r (up_2 (up_2 (up_2 (up_2 mi 41 m (mi 30 b)) 42 m ((up_2 mi 41 m (mi 30 b)) 29 0)) 29 13 (((up_2 (up_2 mi 41 m (mi 30 b)) 42 m ((up_2 mi 41 m (mi 30 b)) 29 0)) 29 13) + 1)) 30 b (((up_2 (up_2 (up_2 mi 41 m (mi 30 b)) 42 m ((up_2 mi 41 m (mi 30 b)) 29 0)) 29 13 (((up_2 (up_2 mi 41 m (mi 30 b)) 42 m ((up_2 mi 41 m (mi 30 b)) 29 0)) 29 13) + 1)) 30 b) + 1)) 34 (6 * b) 6 0)) v_ sh_ mi_ mr_)) := by
  show EV none 2 0 0 mX6_pass 0 [some (pv_r 29), some (pv_i (nI b)), none, none] [] sh mi mr _
  refine ev_aload_n dX6_pass_0 rfl ?_
  refine ev_iload_n dX6_pass_1 rfl ?_
  refine ev_v1i dX6_pass_2 cv_X6_133 (hB.1 29 _ rfl) (Nat.le_of_ble_eq_true rfl) (by decide) (t_X6_isBook hB _) ?_
  refine ev_if_ne_t (tgt := 11) dX6_pass_5 rfl (by rw [bi_1 (by rw [hnb]; exact (i_cases (by omega)).mpr ⟨b, hb, rfl⟩)]; decide) ?_
  refine ev_aload_n dX6_pass_11 rfl ?_
  refine ev_getq dX6_pass_12 fl_X6_7 rfl (hB.1 29 _ rfl) (hB.2 29 2 _ rfl) ?_
  refine ev_iload_n dX6_pass_15 rfl ?_
  refine ev_iald dX6_pass_16 (hB.1 30 _ rfl) (j := b) rfl (by omega) (by decide) ?_
  refine ev_iconst (v := 5) dX6_pass_17 rfl ?_
  refine ev_icmp_ge (tgt := 34) dX6_pass_18 rfl (fun h18 => ?_) (fun h18 => ?_)
  · refine ev_iconst (v := 0) dX6_pass_34 rfl ?_
    refine ev_istore_n dX6_pass_35 (by decide) ?_
    refine ev_iconst (v := 0) dX6_pass_36 rfl ?_
    refine ev_istore_n dX6_pass_37 (by decide) ?_
    obtain ⟨z, hz⟩ : ∃ z : Nat, z = 0 := ⟨0, rfl⟩
    have q := lp_X6_pass hB nb hnb hnb10 b hb g hg hg6 m hm hm50 z (by omega)
    rw [show bi ((¬ 5 ≤ (mi 30 b) ∧ ¬ (mi 31 b) ≤ 0) ∧ ∀ k, k < z → ¬ mi 34 (6 * b + k) = 0) = _ from bi_f (fun q => q.1.1 h18)] at q
    subst hz
    exact q
  · refine ev_aload_n dX6_pass_21 rfl ?_
    refine ev_getq dX6_pass_22 fl_X6_13 rfl (hB.1 29 _ rfl) (hB.2 29 3 _ rfl) ?_
    refine ev_iload_n dX6_pass_25 rfl ?_
    refine ev_iald dX6_pass_26 (hB.1 31 _ rfl) (j := b) rfl (by omega) (by decide) ?_
    refine ev_if_le (tgt := 34) dX6_pass_27 rfl (fun h27 => ?_) (fun h27 => ?_)
    · refine ev_iconst (v := 0) dX6_pass_34 rfl ?_
      refine ev_istore_n dX6_pass_35 (by decide) ?_
      refine ev_iconst (v := 0) dX6_pass_36 rfl ?_
      refine ev_istore_n dX6_pass_37 (by decide) ?_
      obtain ⟨z, hz⟩ : ∃ z : Nat, z = 0 := ⟨0, rfl⟩
      have q := lp_X6_pass hB nb hnb hnb10 b hb g hg hg6 m hm hm50 z (by omega)
      rw [show bi ((¬ 5 ≤ (mi 30 b) ∧ ¬ (mi 31 b) ≤ 0) ∧ ∀ k, k < z → ¬ mi 34 (6 * b + k) = 0) = _ from bi_f (fun q => q.1.2 h27)] at q
      subst hz
      exact q
    · refine ev_iconst (v := 1) dX6_pass_30 rfl ?_
      refine ev_goto (tgt := 35) dX6_pass_31 rfl ?_
      refine ev_istore_n dX6_pass_35 (by decide) ?_
      refine ev_iconst (v := 0) dX6_pass_36 rfl ?_
      refine ev_istore_n dX6_pass_37 (by decide) ?_
      obtain ⟨z, hz⟩ : ∃ z : Nat, z = 0 := ⟨0, rfl⟩
      have q := lp_X6_pass hB nb hnb hnb10 b hb g hg hg6 m hm hm50 z (by omega)
      rw [show bi ((¬ 5 ≤ (mi 30 b) ∧ ¬ (mi 31 b) ≤ 0) ∧ ∀ k, k < z → ¬ mi 34 (6 * b + k) = 0) = _ from bi_1 ⟨⟨h18, h27⟩, fun k hk => by omega⟩] at q
      subst hz
      exact q
end
