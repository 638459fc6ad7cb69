section
-- ===== PART A: goes FIRST, ahead of the names: the tables' words, and 'selects' of the private methods out of them =====
/-- a private method of a class that the tables say can be made, by its rows of tables_1 -/
def lw_okq (q : MethodName × Nat) : Prop := (q.1.cls ≠ "java/lang/invoke/MethodHandle" ∧ q.1.cls ≠ "java/lang/invoke/VarHandle") ∧ Cond.instantiable q.1.cls q.2 ∈ tables_1 ∧ Cond.privateMethod q.1 ∈ tables_1 ∧ Cond.instanceMethod q.1 ∈ tables_1
theorem lw_p0 : lw_okq (⟨"Bindery", "bookAt", "(I)LBindery$Book;"⟩, 8) := ⟨⟨by decide +kernel, by decide +kernel⟩, List.mem_of_getElem? (i := 11) (by decide +kernel), List.mem_of_getElem? (i := 235) (by decide +kernel), List.mem_of_getElem? (i := 236) (by decide +kernel)⟩
theorem lw_p1 : lw_okq (⟨"Bindery$Planner", "search", "(III)V"⟩, 12) := ⟨⟨by decide +kernel, by decide +kernel⟩, List.mem_of_getElem? (i := 21) (by decide +kernel), List.mem_of_getElem? (i := 337) (by decide +kernel), List.mem_of_getElem? (i := 338) (by decide +kernel)⟩
theorem lw_p2 : lw_okq (⟨"Bindery$Planner", "work", "(II)I"⟩, 12) := ⟨⟨by decide +kernel, by decide +kernel⟩, List.mem_of_getElem? (i := 21) (by decide +kernel), List.mem_of_getElem? (i := 341) (by decide +kernel), List.mem_of_getElem? (i := 342) (by decide +kernel)⟩
theorem lw_p3 : lw_okq (⟨"Bindery$Planner", "keepTrial", "(II)V"⟩, 12) := ⟨⟨by decide +kernel, by decide +kernel⟩, List.mem_of_getElem? (i := 21) (by decide +kernel), List.mem_of_getElem? (i := 348) (by decide +kernel), List.mem_of_getElem? (i := 349) (by decide +kernel)⟩
theorem lw_p4 : lw_okq (⟨"Bindery$Spine", "weigh", "(III)V"⟩, 12) := ⟨⟨by decide +kernel, by decide +kernel⟩, List.mem_of_getElem? (i := 66) (by decide +kernel), List.mem_of_getElem? (i := 410) (by decide +kernel), List.mem_of_getElem? (i := 411) (by decide +kernel)⟩
theorem lw_p5 : lw_okq (⟨"Bindery$Spine", "layOut", "(I)V"⟩, 12) := ⟨⟨by decide +kernel, by decide +kernel⟩, List.mem_of_getElem? (i := 66) (by decide +kernel), List.mem_of_getElem? (i := 414) (by decide +kernel), List.mem_of_getElem? (i := 415) (by decide +kernel)⟩
theorem lw_p6 : lw_okq (⟨"Bindery", "skinAt", "(I)LBindery$Skin;"⟩, 8) := ⟨⟨by decide +kernel, by decide +kernel⟩, List.mem_of_getElem? (i := 11) (by decide +kernel), List.mem_of_getElem? (i := 482) (by decide +kernel), List.mem_of_getElem? (i := 483) (by decide +kernel)⟩
theorem lw_p7 : lw_okq (⟨"Bindery$Skin", "cutHere", "(IIII)Z"⟩, 6) := ⟨⟨by decide +kernel, by decide +kernel⟩, List.mem_of_getElem? (i := 452) (by decide +kernel), List.mem_of_getElem? (i := 507) (by decide +kernel), List.mem_of_getElem? (i := 508) (by decide +kernel)⟩
theorem lw_p8 : lw_okq (⟨"Bindery$Skin", "isFree", "(IIII)Z"⟩, 6) := ⟨⟨by decide +kernel, by decide +kernel⟩, List.mem_of_getElem? (i := 452) (by decide +kernel), List.mem_of_getElem? (i := 511) (by decide +kernel), List.mem_of_getElem? (i := 512) (by decide +kernel)⟩
theorem lw_p9 : lw_okq (⟨"Bindery", "takeBackAlike", "(I)V"⟩, 8) := ⟨⟨by decide +kernel, by decide +kernel⟩, List.mem_of_getElem? (i := 11) (by decide +kernel), List.mem_of_getElem? (i := 525) (by decide +kernel), List.mem_of_getElem? (i := 526) (by decide +kernel)⟩
theorem lw_p10 : lw_okq (⟨"BinderyModel", "isBook", "(I)Z"⟩, 47) := ⟨⟨by decide +kernel, by decide +kernel⟩, List.mem_of_getElem? (i := 575) (by decide +kernel), List.mem_of_getElem? (i := 732) (by decide +kernel), List.mem_of_getElem? (i := 733) (by decide +kernel)⟩
theorem lw_p11 : lw_okq (⟨"BinderyModel", "isGathering", "(II)Z"⟩, 47) := ⟨⟨by decide +kernel, by decide +kernel⟩, List.mem_of_getElem? (i := 575) (by decide +kernel), List.mem_of_getElem? (i := 743) (by decide +kernel), List.mem_of_getElem? (i := 744) (by decide +kernel)⟩
theorem lw_p12 : lw_okq (⟨"BinderyModel", "tell", "(IIII)V"⟩, 47) := ⟨⟨by decide +kernel, by decide +kernel⟩, List.mem_of_getElem? (i := 575) (by decide +kernel), List.mem_of_getElem? (i := 781) (by decide +kernel), List.mem_of_getElem? (i := 782) (by decide +kernel)⟩
theorem lw_p13 : lw_okq (⟨"BinderyModel", "findEnds", "(I)V"⟩, 47) := ⟨⟨by decide +kernel, by decide +kernel⟩, List.mem_of_getElem? (i := 575) (by decide +kernel), List.mem_of_getElem? (i := 785) (by decide +kernel), List.mem_of_getElem? (i := 786) (by decide +kernel)⟩
theorem lw_p14 : lw_okq (⟨"BinderyModel", "findWords", "()V"⟩, 47) := ⟨⟨by decide +kernel, by decide +kernel⟩, List.mem_of_getElem? (i := 575) (by decide +kernel), List.mem_of_getElem? (i := 813) (by decide +kernel), List.mem_of_getElem? (i := 814) (by decide +kernel)⟩
theorem lw_p15 : lw_okq (⟨"BinderyModel", "through", "(IIII)I"⟩, 47) := ⟨⟨by decide +kernel, by decide +kernel⟩, List.mem_of_getElem? (i := 575) (by decide +kernel), List.mem_of_getElem? (i := 817) (by decide +kernel), List.mem_of_getElem? (i := 818) (by decide +kernel)⟩
def lw_privs_1 : List (MethodName × Nat) := [(⟨"Bindery", "bookAt", "(I)LBindery$Book;"⟩, 8), (⟨"Bindery$Planner", "search", "(III)V"⟩, 12), (⟨"Bindery$Planner", "work", "(II)I"⟩, 12), (⟨"Bindery$Planner", "keepTrial", "(II)V"⟩, 12), (⟨"Bindery$Spine", "weigh", "(III)V"⟩, 12), (⟨"Bindery$Spine", "layOut", "(I)V"⟩, 12), (⟨"Bindery", "skinAt", "(I)LBindery$Skin;"⟩, 8), (⟨"Bindery$Skin", "cutHere", "(IIII)Z"⟩, 6), (⟨"Bindery$Skin", "isFree", "(IIII)Z"⟩, 6), (⟨"Bindery", "takeBackAlike", "(I)V"⟩, 8), (⟨"BinderyModel", "isBook", "(I)Z"⟩, 47), (⟨"BinderyModel", "isGathering", "(II)Z"⟩, 47), (⟨"BinderyModel", "tell", "(IIII)V"⟩, 47), (⟨"BinderyModel", "findEnds", "(I)V"⟩, 47), (⟨"BinderyModel", "findWords", "()V"⟩, 47), (⟨"BinderyModel", "through", "(IIII)I"⟩, 47)]
theorem lw_r1 : ∀ q ∈ lw_privs_1, lw_okq q := List.forall_mem_cons.mpr ⟨lw_p0, List.forall_mem_cons.mpr ⟨lw_p1, List.forall_mem_cons.mpr ⟨lw_p2, List.forall_mem_cons.mpr ⟨lw_p3, List.forall_mem_cons.mpr ⟨lw_p4, List.forall_mem_cons.mpr ⟨lw_p5, List.forall_mem_cons.mpr ⟨lw_p6, List.forall_mem_cons.mpr ⟨lw_p7, List.forall_mem_cons.mpr ⟨lw_p8, List.forall_mem_cons.mpr ⟨lw_p9, List.forall_mem_cons.mpr ⟨lw_p10, List.forall_mem_cons.mpr ⟨lw_p11, List.forall_mem_cons.mpr ⟨lw_p12, List.forall_mem_cons.mpr ⟨lw_p13, List.forall_mem_cons.mpr ⟨lw_p14, List.forall_mem_cons.mpr ⟨lw_p15, fun _ h => absurd h List.not_mem_nil⟩⟩⟩⟩⟩⟩⟩⟩⟩⟩⟩⟩⟩⟩⟩⟩
theorem lw_p16 : lw_okq (⟨"BinderyModel", "wideOf", "(II)I"⟩, 47) := ⟨⟨by decide +kernel, by decide +kernel⟩, List.mem_of_getElem? (i := 575) (by decide +kernel), List.mem_of_getElem? (i := 821) (by decide +kernel), List.mem_of_getElem? (i := 822) (by decide +kernel)⟩
theorem lw_p17 : lw_okq (⟨"BinderyModel", "often", "(I)I"⟩, 47) := ⟨⟨by decide +kernel, by decide +kernel⟩, List.mem_of_getElem? (i := 575) (by decide +kernel), List.mem_of_getElem? (i := 833) (by decide +kernel), List.mem_of_getElem? (i := 834) (by decide +kernel)⟩
theorem lw_p18 : lw_okq (⟨"BinderyModel", "isSkin", "(I)Z"⟩, 47) := ⟨⟨by decide +kernel, by decide +kernel⟩, List.mem_of_getElem? (i := 575) (by decide +kernel), List.mem_of_getElem? (i := 853) (by decide +kernel), List.mem_of_getElem? (i := 854) (by decide +kernel)⟩
theorem lw_p19 : lw_okq (⟨"BinderyModel", "isSpot", "(III)Z"⟩, 47) := ⟨⟨by decide +kernel, by decide +kernel⟩, List.mem_of_getElem? (i := 575) (by decide +kernel), List.mem_of_getElem? (i := 857) (by decide +kernel), List.mem_of_getElem? (i := 858) (by decide +kernel)⟩
theorem lw_p20 : lw_okq (⟨"BinderyModel", "cutOf", "(III)I"⟩, 47) := ⟨⟨by decide +kernel, by decide +kernel⟩, List.mem_of_getElem? (i := 575) (by decide +kernel), List.mem_of_getElem? (i := 865) (by decide +kernel), List.mem_of_getElem? (i := 866) (by decide +kernel)⟩
theorem lw_p21 : lw_okq (⟨"BinderyModel", "fits", "(IIIII)Z"⟩, 47) := ⟨⟨by decide +kernel, by decide +kernel⟩, List.mem_of_getElem? (i := 575) (by decide +kernel), List.mem_of_getElem? (i := 869) (by decide +kernel), List.mem_of_getElem? (i := 870) (by decide +kernel)⟩
theorem lw_p22 : lw_okq (⟨"BinderyModel", "take", "(IIIIIZ)I"⟩, 47) := ⟨⟨by decide +kernel, by decide +kernel⟩, List.mem_of_getElem? (i := 575) (by decide +kernel), List.mem_of_getElem? (i := 873) (by decide +kernel), List.mem_of_getElem? (i := 874) (by decide +kernel)⟩
theorem lw_p23 : lw_okq (⟨"BinderyModel", "rateOf", "(III)I"⟩, 47) := ⟨⟨by decide +kernel, by decide +kernel⟩, List.mem_of_getElem? (i := 575) (by decide +kernel), List.mem_of_getElem? (i := 900) (by decide +kernel), List.mem_of_getElem? (i := 901) (by decide +kernel)⟩
def lw_privs_2 : List (MethodName × Nat) := [(⟨"BinderyModel", "wideOf", "(II)I"⟩, 47), (⟨"BinderyModel", "often", "(I)I"⟩, 47), (⟨"BinderyModel", "isSkin", "(I)Z"⟩, 47), (⟨"BinderyModel", "isSpot", "(III)Z"⟩, 47), (⟨"BinderyModel", "cutOf", "(III)I"⟩, 47), (⟨"BinderyModel", "fits", "(IIIII)Z"⟩, 47), (⟨"BinderyModel", "take", "(IIIIIZ)I"⟩, 47), (⟨"BinderyModel", "rateOf", "(III)I"⟩, 47)]
theorem lw_r2 : ∀ q ∈ lw_privs_2, lw_okq q := List.forall_mem_cons.mpr ⟨lw_p16, List.forall_mem_cons.mpr ⟨lw_p17, List.forall_mem_cons.mpr ⟨lw_p18, List.forall_mem_cons.mpr ⟨lw_p19, List.forall_mem_cons.mpr ⟨lw_p20, List.forall_mem_cons.mpr ⟨lw_p21, List.forall_mem_cons.mpr ⟨lw_p22, List.forall_mem_cons.mpr ⟨lw_p23, fun _ h => absurd h List.not_mem_nil⟩⟩⟩⟩⟩⟩⟩⟩
def lw_privs : List (MethodName × Nat) := lw_privs_1 ++ (lw_privs_2)
def lw_tbl : List Cond := k2_sels lw_privs ++ tables_1
theorem lw_privs_ok : ∀ q ∈ lw_privs, lw_okq q := by
  show ∀ q ∈ lw_privs_1 ++ (lw_privs_2), lw_okq q
  exact List.forall_mem_append.mpr ⟨lw_r1, lw_r2⟩
def RX0 : String := "Bindery$Book"
def TX0 : u_T := fun k => match k with
  | 0 => ("Bindery$Book", "leaves", "[I", true)
  | 1 => ("Bindery$Book", "believed", "[I", true)
  | 2 => ("Bindery$Book", "lostAt", "[I", true)
  | 3 => ("Bindery$Book", "foundAt", "[I", true)
  | 4 => ("Bindery$Book", "needs", "[I", true)
  | 5 => ("Bindery$Book", "gatherings", "I", false)
  | 6 => ("Bindery$Book", "at", "I", false)
  | 7 => ("Bindery$Book", "lookedAt", "I", false)
  | 8 => ("Bindery$Book", "drying", "I", false)
  | 9 => ("Bindery$Book", "promisedFor", "I", false)
  | _ => ("Bindery$Book", "price", "I", false)
def tyX0 : Nat → FieldType := fun k => match k with
  | 0 => .array .int
  | 1 => .array .int
  | 2 => .array .int
  | 3 => .array .int
  | 4 => .array .int
  | 5 => .int
  | 6 => .int
  | 7 => .int
  | 8 => .int
  | 9 => .int
  | _ => .int
abbrev wsX00 : List Cond := u_ws RX0 TX0 11
theorem nmX0 : ∀ a, a < 11 → ∀ b, b < 11 → a ≠ b → (TX0 a).2.1 ≠ (TX0 b).2.1 := by decide +kernel
theorem tyX0_ok : ∀ k, k < 11 → parseFieldDescriptor (TX0 k).2.2.1 = some (tyX0 k) := by decide +kernel
abbrev cX0_init : ByteArray := prog_2_method_1_code
def yX0_init : MethodName := ⟨RX0, "<init>", "()V"⟩
abbrev cX0_addGathering : ByteArray := prog_2_method_2_code
def yX0_addGathering : MethodName := ⟨RX0, "addGathering", "(I)I"⟩
abbrev cX0_hasGathering : ByteArray := prog_2_method_3_code
def yX0_hasGathering : MethodName := ⟨RX0, "hasGathering", "(I)Z"⟩
abbrev cX0_hasLeaves : ByteArray := prog_2_method_4_code
def yX0_hasLeaves : MethodName := ⟨RX0, "hasLeaves", "(II)Z"⟩
abbrev cX0_inspect : ByteArray := prog_2_method_5_code
def yX0_inspect : MethodName := ⟨RX0, "inspect", "(II)I"⟩
abbrev cX0_mayMoveOn : ByteArray := prog_2_method_6_code
def yX0_mayMoveOn : MethodName := ⟨RX0, "mayMoveOn", "()Z"⟩
abbrev cX0_moveOn : ByteArray := prog_2_method_7_code
def yX0_moveOn : MethodName := ⟨RX0, "moveOn", "()I"⟩
abbrev cX0_leavesBelieved : ByteArray := prog_2_method_8_code
def yX0_leavesBelieved : MethodName := ⟨RX0, "leavesBelieved", "()I"⟩
abbrev cX0_leavesInAll : ByteArray := prog_2_method_9_code
def yX0_leavesInAll : MethodName := ⟨RX0, "leavesInAll", "()I"⟩
abbrev cX0_allOf : ByteArray := prog_2_method_10_code
def yX0_allOf : MethodName := ⟨RX0, "allOf", "(I)I"⟩
def RX1 : String := "Bindery$Ledger"
def TX1 : u_T := fun k => match k with
  | 0 => ("Bindery$Ledger", "rates", "I", false)
  | 1 => ("Bindery$Ledger", "passes", "I", false)
  | 2 => ("Bindery$Ledger", "rateBench", "[I", true)
  | 3 => ("Bindery$Ledger", "rateFrom", "[I", true)
  | 4 => ("Bindery$Ledger", "ratePence", "[I", true)
  | 5 => ("Bindery$Ledger", "rateTold", "[I", true)
  | 6 => ("Bindery$Ledger", "passBench", "[I", true)
  | _ => ("Bindery$Ledger", "passDay", "[I", true)
def tyX1 : Nat → FieldType := fun k => match k with
  | 0 => .int
  | 1 => .int
  | 2 => .array .int
  | 3 => .array .int
  | 4 => .array .int
  | 5 => .array .int
  | 6 => .array .int
  | _ => .array .int
abbrev wsX10 : List Cond := u_ws RX1 TX1 8
theorem nmX1 : ∀ a, a < 8 → ∀ b, b < 8 → a ≠ b → (TX1 a).2.1 ≠ (TX1 b).2.1 := by decide +kernel
theorem tyX1_ok : ∀ k, k < 8 → parseFieldDescriptor (TX1 k).2.2.1 = some (tyX1 k) := by decide +kernel
abbrev cX1_init : ByteArray := prog_3_method_1_code
def yX1_init : MethodName := ⟨RX1, "<init>", "()V"⟩
abbrev cX1_noteRate : ByteArray := prog_3_method_2_code
def yX1_noteRate : MethodName := ⟨RX1, "noteRate", "(IIII)I"⟩
abbrev cX1_notePass : ByteArray := prog_3_method_3_code
def yX1_notePass : MethodName := ⟨RX1, "notePass", "(II)V"⟩
abbrev cX1_penceAt : ByteArray := prog_3_method_4_code
def yX1_penceAt : MethodName := ⟨RX1, "penceAt", "(III)I"⟩
abbrev cX1_earned : ByteArray := prog_3_method_5_code
def yX1_earned : MethodName := ⟨RX1, "earned", "(III)I"⟩
def RX2 : String := "Bindery$Planner"
def TX2 : u_T := fun k => match k with
  | 0 => ("Bindery$Planner", "ends", "[I", true)
  | 1 => ("Bindery$Planner", "numbers", "[I", true)
  | 2 => ("Bindery$Planner", "needs", "[I", true)
  | 3 => ("Bindery$Planner", "drying", "[I", true)
  | 4 => ("Bindery$Planner", "promisedFor", "[I", true)
  | 5 => ("Bindery$Planner", "prices", "[I", true)
  | 6 => ("Bindery$Planner", "trial", "[I", true)
  | 7 => ("Bindery$Planner", "best", "[I", true)
  | 8 => ("Bindery$Planner", "clocks", "[I", true)
  | 9 => ("Bindery$Planner", "members", "I", false)
  | 10 => ("Bindery$Planner", "leastCost", "I", false)
  | _ => ("Bindery$Planner", "leastEnd", "I", false)
def tyX2 : Nat → FieldType := fun k => match k with
  | 0 => .array .int
  | 1 => .array .int
  | 2 => .array .int
  | 3 => .array .int
  | 4 => .array .int
  | 5 => .array .int
  | 6 => .array .int
  | 7 => .array .int
  | 8 => .array .int
  | 9 => .int
  | 10 => .int
  | _ => .int
abbrev wsX20 : List Cond := u_ws RX2 TX2 12
theorem nmX2 : ∀ a, a < 12 → ∀ b, b < 12 → a ≠ b → (TX2 a).2.1 ≠ (TX2 b).2.1 := by decide +kernel
theorem tyX2_ok : ∀ k, k < 12 → parseFieldDescriptor (TX2 k).2.2.1 = some (tyX2 k) := by decide +kernel
abbrev cX2_init : ByteArray := prog_4_method_1_code
def yX2_init : MethodName := ⟨RX2, "<init>", "()V"⟩
abbrev cX2_clear : ByteArray := prog_4_method_2_code
def yX2_clear : MethodName := ⟨RX2, "clear", "()V"⟩
abbrev cX2_enlist : ByteArray := prog_4_method_3_code
def yX2_enlist : MethodName := ⟨RX2, "enlist", "(ILBindery$Book;)V"⟩
abbrev cX2_arrange : ByteArray := prog_4_method_4_code
def yX2_arrange : MethodName := ⟨RX2, "arrange", "()I"⟩
abbrev cX2_hasPlace : ByteArray := prog_4_method_5_code
def yX2_hasPlace : MethodName := ⟨RX2, "hasPlace", "(I)Z"⟩
abbrev cX2_numberAt : ByteArray := prog_4_method_6_code
def yX2_numberAt : MethodName := ⟨RX2, "numberAt", "(I)I"⟩
abbrev cX2_placeOf : ByteArray := prog_4_method_7_code
def yX2_placeOf : MethodName := ⟨RX2, "placeOf", "(I)I"⟩
abbrev cX2_delayedBy : ByteArray := prog_4_method_8_code
def yX2_delayedBy : MethodName := ⟨RX2, "delayedBy", "(I)I"⟩
abbrev cX2_search : ByteArray := prog_4_method_9_code
def yX2_search : MethodName := ⟨RX2, "search", "(III)V"⟩
abbrev cX2_keepTrial : ByteArray := prog_4_method_10_code
def yX2_keepTrial : MethodName := ⟨RX2, "keepTrial", "(II)V"⟩
abbrev cX2_work : ByteArray := prog_4_method_11_code
def yX2_work : MethodName := ⟨RX2, "work", "(II)I"⟩
def RX3 : String := "Bindery$Skin"
def TX3 : u_T := fun k => match k with
  | 0 => ("Bindery$Skin", "tone", "I", true)
  | 1 => ("Bindery$Skin", "wide", "I", true)
  | 2 => ("Bindery$Skin", "high", "I", true)
  | 3 => ("Bindery$Skin", "places", "[I", true)
  | 4 => ("Bindery$Skin", "coversCut", "I", false)
  | _ => ("Bindery$Skin", "coversAhead", "I", false)
def tyX3 : Nat → FieldType := fun k => match k with
  | 0 => .int
  | 1 => .int
  | 2 => .int
  | 3 => .array .int
  | 4 => .int
  | _ => .int
abbrev wsX30 : List Cond := u_ws RX3 TX3 6
theorem nmX3 : ∀ a, a < 6 → ∀ b, b < 6 → a ≠ b → (TX3 a).2.1 ≠ (TX3 b).2.1 := by decide +kernel
theorem tyX3_ok : ∀ k, k < 6 → parseFieldDescriptor (TX3 k).2.2.1 = some (tyX3 k) := by decide +kernel
abbrev cX3_init : ByteArray := prog_5_method_1_code
def yX3_init : MethodName := ⟨RX3, "<init>", "(III)V"⟩
abbrev cX3_hasPlace : ByteArray := prog_5_method_2_code
def yX3_hasPlace : MethodName := ⟨RX3, "hasPlace", "(II)Z"⟩
abbrev cX3_stateOf : ByteArray := prog_5_method_3_code
def yX3_stateOf : MethodName := ⟨RX3, "stateOf", "(II)I"⟩
abbrev cX3_fill : ByteArray := prog_5_method_4_code
def yX3_fill : MethodName := ⟨RX3, "fill", "(IIIII)V"⟩
abbrev cX3_cutCover : ByteArray := prog_5_method_5_code
def yX3_cutCover : MethodName := ⟨RX3, "cutCover", "(II)I"⟩
abbrev cX3_cutAlike : ByteArray := prog_5_method_6_code
def yX3_cutAlike : MethodName := ⟨RX3, "cutAlike", "(III)I"⟩
abbrev cX3_takeBackAlike : ByteArray := prog_5_method_7_code
def yX3_takeBackAlike : MethodName := ⟨RX3, "takeBackAlike", "()V"⟩
abbrev cX3_cutHere : ByteArray := prog_5_method_8_code
def yX3_cutHere : MethodName := ⟨RX3, "cutHere", "(IIII)Z"⟩
abbrev cX3_isFree : ByteArray := prog_5_method_9_code
def yX3_isFree : MethodName := ⟨RX3, "isFree", "(IIII)Z"⟩
def RX4 : String := "Bindery$Spine"
def TX4 : u_T := fun k => match k with
  | 0 => ("Bindery$Spine", "widths", "[I", true)
  | 1 => ("Bindery$Spine", "stamped", "[I", true)
  | 2 => ("Bindery$Spine", "lineWords", "[I", true)
  | 3 => ("Bindery$Spine", "length", "I", false)
  | 4 => ("Bindery$Spine", "lines", "I", false)
  | 5 => ("Bindery$Spine", "lasting", "I", false)
  | 6 => ("Bindery$Spine", "signs", "[I", true)
  | 7 => ("Bindery$Spine", "wanted", "[I", true)
  | 8 => ("Bindery$Spine", "wordWidths", "[I", true)
  | 9 => ("Bindery$Spine", "costs", "[I", true)
  | 10 => ("Bindery$Spine", "firstWords", "[I", true)
  | _ => ("Bindery$Spine", "words", "I", false)
def tyX4 : Nat → FieldType := fun k => match k with
  | 0 => .array .int
  | 1 => .array .int
  | 2 => .array .int
  | 3 => .int
  | 4 => .int
  | 5 => .int
  | 6 => .array .int
  | 7 => .array .int
  | 8 => .array .int
  | 9 => .array .int
  | 10 => .array .int
  | _ => .int
abbrev wsX40 : List Cond := u_ws RX4 TX4 12
theorem nmX4 : ∀ a, a < 12 → ∀ b, b < 12 → a ≠ b → (TX4 a).2.1 ≠ (TX4 b).2.1 := by decide +kernel
theorem tyX4_ok : ∀ k, k < 12 → parseFieldDescriptor (TX4 k).2.2.1 = some (tyX4 k) := by decide +kernel
abbrev cX4_init : ByteArray := prog_6_method_1_code
def yX4_init : MethodName := ⟨RX4, "<init>", "()V"⟩
abbrev cX4_addSign : ByteArray := prog_6_method_2_code
def yX4_addSign : MethodName := ⟨RX4, "addSign", "(I)I"⟩
abbrev cX4_readWords : ByteArray := prog_6_method_3_code
def yX4_readWords : MethodName := ⟨RX4, "readWords", "()I"⟩
abbrev cX4_breakUp : ByteArray := prog_6_method_4_code
def yX4_breakUp : MethodName := ⟨RX4, "breakUp", "(II)I"⟩
abbrev cX4_weigh : ByteArray := prog_6_method_5_code
def yX4_weigh : MethodName := ⟨RX4, "weigh", "(III)V"⟩
abbrev cX4_layOut : ByteArray := prog_6_method_6_code
def yX4_layOut : MethodName := ⟨RX4, "layOut", "(I)V"⟩
abbrev cX4_countLetters : ByteArray := prog_6_method_7_code
def yX4_countLetters : MethodName := ⟨RX4, "countLetters", "()I"⟩
abbrev cX4_wouldBlunt : ByteArray := prog_6_method_8_code
def yX4_wouldBlunt : MethodName := ⟨RX4, "wouldBlunt", "()Z"⟩
abbrev cX4_stampAll : ByteArray := prog_6_method_9_code
def yX4_stampAll : MethodName := ⟨RX4, "stampAll", "()V"⟩
def RX5 : String := "Bindery"
def TX5 : u_T := fun k => match k with
  | 0 => ("Bindery", "shelf", "[LBindery$Book;", true)
  | 1 => ("Bindery", "planner", "LBindery$Planner;", true)
  | 2 => ("Bindery", "spine", "LBindery$Spine;", true)
  | 3 => ("Bindery", "hides", "[LBindery$Skin;", true)
  | 4 => ("Bindery", "ledger", "LBindery$Ledger;", true)
  | 5 => ("Bindery", "bookCount", "I", false)
  | 6 => ("Bindery", "skinCount", "I", false)
  | _ => ("Bindery", "today", "I", false)
def tyX5 : Nat → FieldType := fun k => match k with
  | 0 => .array (.object "Bindery$Book")
  | 1 => .object "Bindery$Planner"
  | 2 => .object "Bindery$Spine"
  | 3 => .array (.object "Bindery$Skin")
  | 4 => .object "Bindery$Ledger"
  | 5 => .int
  | 6 => .int
  | _ => .int
abbrev wsX50 : List Cond := u_ws RX5 TX5 8
theorem nmX5 : ∀ a, a < 8 → ∀ b, b < 8 → a ≠ b → (TX5 a).2.1 ≠ (TX5 b).2.1 := by decide +kernel
theorem tyX5_ok : ∀ k, k < 8 → parseFieldDescriptor (TX5 k).2.2.1 = some (tyX5 k) := by decide +kernel
abbrev cX5_init : ByteArray := prog_1_method_1_code
def yX5_init : MethodName := ⟨RX5, "<init>", "()V"⟩
abbrev cX5_book : ByteArray := prog_1_method_2_code
def yX5_book : MethodName := ⟨RX5, "book", "()I"⟩
abbrev cX5_gather : ByteArray := prog_1_method_3_code
def yX5_gather : MethodName := ⟨RX5, "gather", "(II)I"⟩
abbrev cX5_look : ByteArray := prog_1_method_4_code
def yX5_look : MethodName := ⟨RX5, "look", "(III)I"⟩
abbrev cX5_pass : ByteArray := prog_1_method_5_code
def yX5_pass : MethodName := ⟨RX5, "pass", "(I)I"⟩
abbrev cX5_told : ByteArray := prog_1_method_6_code
def yX5_told : MethodName := ⟨RX5, "told", "(II)I"⟩
abbrev cX5_there : ByteArray := prog_1_method_7_code
def yX5_there : MethodName := ⟨RX5, "there", "(II)I"⟩
abbrev cX5_gone : ByteArray := prog_1_method_8_code
def yX5_gone : MethodName := ⟨RX5, "gone", "(III)I"⟩
abbrev cX5_hours : ByteArray := prog_1_method_9_code
def yX5_hours : MethodName := ⟨RX5, "hours", "(III)I"⟩
abbrev cX5_promise : ByteArray := prog_1_method_10_code
def yX5_promise : MethodName := ⟨RX5, "promise", "(IIII)I"⟩
abbrev cX5_plan : ByteArray := prog_1_method_11_code
def yX5_plan : MethodName := ⟨RX5, "plan", "(I)I"⟩
abbrev cX5_planned : ByteArray := prog_1_method_12_code
def yX5_planned : MethodName := ⟨RX5, "planned", "(II)I"⟩
abbrev cX5_delays : ByteArray := prog_1_method_13_code
def yX5_delays : MethodName := ⟨RX5, "delays", "(I)I"⟩
abbrev cX5_width : ByteArray := prog_1_method_14_code
def yX5_width : MethodName := ⟨RX5, "width", "(II)I"⟩
abbrev cX5_sign : ByteArray := prog_1_method_15_code
def yX5_sign : MethodName := ⟨RX5, "sign", "(I)I"⟩
abbrev cX5_wipe : ByteArray := prog_1_method_16_code
def yX5_wipe : MethodName := ⟨RX5, "wipe", "()I"⟩
abbrev cX5_broken : ByteArray := prog_1_method_17_code
def yX5_broken : MethodName := ⟨RX5, "broken", "(II)I"⟩
abbrev cX5_line : ByteArray := prog_1_method_18_code
def yX5_line : MethodName := ⟨RX5, "line", "(I)I"⟩
abbrev cX5_stamp : ByteArray := prog_1_method_19_code
def yX5_stamp : MethodName := ⟨RX5, "stamp", "()I"⟩
abbrev cX5_sharpen : ByteArray := prog_1_method_20_code
def yX5_sharpen : MethodName := ⟨RX5, "sharpen", "(I)I"⟩
abbrev cX5_last : ByteArray := prog_1_method_21_code
def yX5_last : MethodName := ⟨RX5, "last", "(I)I"⟩
abbrev cX5_skin : ByteArray := prog_1_method_22_code
def yX5_skin : MethodName := ⟨RX5, "skin", "(III)I"⟩
abbrev cX5_flaw : ByteArray := prog_1_method_23_code
def yX5_flaw : MethodName := ⟨RX5, "flaw", "(III)I"⟩
abbrev cX5_cut : ByteArray := prog_1_method_24_code
def yX5_cut : MethodName := ⟨RX5, "cut", "(III)I"⟩
abbrev cX5_covers : ByteArray := prog_1_method_25_code
def yX5_covers : MethodName := ⟨RX5, "covers", "(IIII)I"⟩
abbrev cX5_spot : ByteArray := prog_1_method_26_code
def yX5_spot : MethodName := ⟨RX5, "spot", "(III)I"⟩
abbrev cX5_days : ByteArray := prog_1_method_27_code
def yX5_days : MethodName := ⟨RX5, "days", "(I)I"⟩
abbrev cX5_rate : ByteArray := prog_1_method_28_code
def yX5_rate : MethodName := ⟨RX5, "rate", "(III)I"⟩
abbrev cX5_rateAt : ByteArray := prog_1_method_29_code
def yX5_rateAt : MethodName := ⟨RX5, "rateAt", "(III)I"⟩
abbrev cX5_wages : ByteArray := prog_1_method_30_code
def yX5_wages : MethodName := ⟨RX5, "wages", "(III)I"⟩
abbrev cX5_count : ByteArray := prog_1_method_31_code
def yX5_count : MethodName := ⟨RX5, "count", "(I)I"⟩
abbrev cX5_within : ByteArray := prog_1_method_32_code
def yX5_within : MethodName := ⟨RX5, "within", "(III)Z"⟩
abbrev cX5_isBench : ByteArray := prog_1_method_33_code
def yX5_isBench : MethodName := ⟨RX5, "isBench", "(I)Z"⟩
abbrev cX5_isSign : ByteArray := prog_1_method_34_code
def yX5_isSign : MethodName := ⟨RX5, "isSign", "(I)Z"⟩
abbrev cX5_isSize : ByteArray := prog_1_method_35_code
def yX5_isSize : MethodName := ⟨RX5, "isSize", "(II)Z"⟩
abbrev cX5_isDay : ByteArray := prog_1_method_36_code
def yX5_isDay : MethodName := ⟨RX5, "isDay", "(I)Z"⟩
abbrev cX5_bookAt : ByteArray := prog_1_method_37_code
def yX5_bookAt : MethodName := ⟨RX5, "bookAt", "(I)LBindery$Book;"⟩
abbrev cX5_skinAt : ByteArray := prog_1_method_38_code
def yX5_skinAt : MethodName := ⟨RX5, "skinAt", "(I)LBindery$Skin;"⟩
abbrev cX5_takeBackAlike : ByteArray := prog_1_method_39_code
def yX5_takeBackAlike : MethodName := ⟨RX5, "takeBackAlike", "(I)V"⟩
def RX6 : String := "BinderyModel"
def TX6 : u_T := fun k => match k with
  | 0 => ("BinderyModel", "day", "I", false)
  | 1 => ("BinderyModel", "books", "I", false)
  | 2 => ("BinderyModel", "bench", "[I", true)
  | 3 => ("BinderyModel", "gatherings", "[I", true)
  | 4 => ("BinderyModel", "leaves", "[I", true)
  | 5 => ("BinderyModel", "there", "[I", true)
  | 6 => ("BinderyModel", "isLooked", "[Z", true)
  | 7 => ("BinderyModel", "lost", "[I", true)
  | 8 => ("BinderyModel", "found", "[I", true)
  | 9 => ("BinderyModel", "hours", "[I", true)
  | 10 => ("BinderyModel", "dries", "[I", true)
  | 11 => ("BinderyModel", "promised", "[I", true)
  | 12 => ("BinderyModel", "price", "[I", true)
  | 13 => ("BinderyModel", "passes", "I", false)
  | 14 => ("BinderyModel", "passBench", "[I", true)
  | 15 => ("BinderyModel", "passDay", "[I", true)
  | 16 => ("BinderyModel", "planSize", "I", false)
  | 17 => ("BinderyModel", "plan", "[I", true)
  | 18 => ("BinderyModel", "planEnd", "[I", true)
  | 19 => ("BinderyModel", "planHours", "[I", true)
  | 20 => ("BinderyModel", "planDries", "[I", true)
  | 21 => ("BinderyModel", "row", "[I", true)
  | 22 => ("BinderyModel", "end", "[I", true)
  | 23 => ("BinderyModel", "free", "[I", true)
  | 24 => ("BinderyModel", "width", "[I", true)
  | 25 => ("BinderyModel", "signs", "I", false)
  | 26 => ("BinderyModel", "text", "[I", true)
  | 27 => ("BinderyModel", "words", "I", false)
  | 28 => ("BinderyModel", "wordWide", "[I", true)
  | 29 => ("BinderyModel", "costs", "[I", true)
  | 30 => ("BinderyModel", "lines", "I", false)
  | 31 => ("BinderyModel", "line", "[I", true)
  | 32 => ("BinderyModel", "stamped", "[I", true)
  | 33 => ("BinderyModel", "last", "I", false)
  | 34 => ("BinderyModel", "skins", "I", false)
  | 35 => ("BinderyModel", "wide", "[I", true)
  | 36 => ("BinderyModel", "high", "[I", true)
  | 37 => ("BinderyModel", "tone", "[I", true)
  | 38 => ("BinderyModel", "spots", "[I", true)
  | 39 => ("BinderyModel", "covers", "[I", true)
  | 40 => ("BinderyModel", "kept", "[I", true)
  | 41 => ("BinderyModel", "keptCovers", "[I", true)
  | 42 => ("BinderyModel", "rates", "I", false)
  | 43 => ("BinderyModel", "rateBench", "[I", true)
  | 44 => ("BinderyModel", "rateFrom", "[I", true)
  | 45 => ("BinderyModel", "ratePence", "[I", true)
  | _ => ("BinderyModel", "rateTold", "[I", true)
def tyX6 : Nat → FieldType := fun k => match k with
  | 0 => .int
  | 1 => .int
  | 2 => .array .int
  | 3 => .array .int
  | 4 => .array .int
  | 5 => .array .int
  | 6 => .array .boolean
  | 7 => .array .int
  | 8 => .array .int
  | 9 => .array .int
  | 10 => .array .int
  | 11 => .array .int
  | 12 => .array .int
  | 13 => .int
  | 14 => .array .int
  | 15 => .array .int
  | 16 => .int
  | 17 => .array .int
  | 18 => .array .int
  | 19 => .array .int
  | 20 => .array .int
  | 21 => .array .int
  | 22 => .array .int
  | 23 => .array .int
  | 24 => .array .int
  | 25 => .int
  | 26 => .array .int
  | 27 => .int
  | 28 => .array .int
  | 29 => .array .int
  | 30 => .int
  | 31 => .array .int
  | 32 => .array .int
  | 33 => .int
  | 34 => .int
  | 35 => .array .int
  | 36 => .array .int
  | 37 => .array .int
  | 38 => .array .int
  | 39 => .array .int
  | 40 => .array .int
  | 41 => .array .int
  | 42 => .int
  | 43 => .array .int
  | 44 => .array .int
  | 45 => .array .int
  | _ => .array .int
abbrev wsX60 : List Cond := u_ws RX6 TX6 47
theorem nmX6 : ∀ a, a < 47 → ∀ b, b < 47 → a ≠ b → (TX6 a).2.1 ≠ (TX6 b).2.1 := by decide +kernel
theorem tyX6_ok : ∀ k, k < 47 → parseFieldDescriptor (TX6 k).2.2.1 = some (tyX6 k) := by decide +kernel
abbrev cX6_init : ByteArray := prog_8_method_1_code
def yX6_init : MethodName := ⟨RX6, "<init>", "()V"⟩
abbrev cX6_in : ByteArray := prog_8_method_2_code
def yX6_in : MethodName := ⟨RX6, "in", "(III)Z"⟩
abbrev cX6_isBook : ByteArray := prog_8_method_3_code
def yX6_isBook : MethodName := ⟨RX6, "isBook", "(I)Z"⟩
abbrev cX6_isBench : ByteArray := prog_8_method_4_code
def yX6_isBench : MethodName := ⟨RX6, "isBench", "(I)Z"⟩
abbrev cX6_isGathering : ByteArray := prog_8_method_5_code
def yX6_isGathering : MethodName := ⟨RX6, "isGathering", "(II)Z"⟩
abbrev cX6_many : ByteArray := prog_8_method_6_code
def yX6_many : MethodName := ⟨RX6, "many", "(I)I"⟩
abbrev cX6_book : ByteArray := prog_8_method_7_code
def yX6_book : MethodName := ⟨RX6, "book", "()I"⟩
abbrev cX6_gather : ByteArray := prog_8_method_8_code
def yX6_gather : MethodName := ⟨RX6, "gather", "(II)I"⟩
abbrev cX6_look : ByteArray := prog_8_method_9_code
def yX6_look : MethodName := ⟨RX6, "look", "(III)I"⟩
abbrev cX6_pass : ByteArray := prog_8_method_10_code
def yX6_pass : MethodName := ⟨RX6, "pass", "(I)I"⟩
abbrev cX6_told : ByteArray := prog_8_method_11_code
def yX6_told : MethodName := ⟨RX6, "told", "(II)I"⟩
abbrev cX6_there : ByteArray := prog_8_method_12_code
def yX6_there : MethodName := ⟨RX6, "there", "(II)I"⟩
abbrev cX6_gone : ByteArray := prog_8_method_13_code
def yX6_gone : MethodName := ⟨RX6, "gone", "(III)I"⟩
abbrev cX6_hours : ByteArray := prog_8_method_14_code
def yX6_hours : MethodName := ⟨RX6, "hours", "(III)I"⟩
abbrev cX6_promise : ByteArray := prog_8_method_15_code
def yX6_promise : MethodName := ⟨RX6, "promise", "(IIII)I"⟩
abbrev cX6_findEnds : ByteArray := prog_8_method_16_code
def yX6_findEnds : MethodName := ⟨RX6, "findEnds", "(I)V"⟩
abbrev cX6_plan : ByteArray := prog_8_method_17_code
def yX6_plan : MethodName := ⟨RX6, "plan", "(I)I"⟩
abbrev cX6_tell : ByteArray := prog_8_method_18_code
def yX6_tell : MethodName := ⟨RX6, "tell", "(IIII)V"⟩
abbrev cX6_planned : ByteArray := prog_8_method_19_code
def yX6_planned : MethodName := ⟨RX6, "planned", "(II)I"⟩
abbrev cX6_delays : ByteArray := prog_8_method_20_code
def yX6_delays : MethodName := ⟨RX6, "delays", "(I)I"⟩
abbrev cX6_width : ByteArray := prog_8_method_21_code
def yX6_width : MethodName := ⟨RX6, "width", "(II)I"⟩
abbrev cX6_sign : ByteArray := prog_8_method_22_code
def yX6_sign : MethodName := ⟨RX6, "sign", "(I)I"⟩
abbrev cX6_wipe : ByteArray := prog_8_method_23_code
def yX6_wipe : MethodName := ⟨RX6, "wipe", "()I"⟩
abbrev cX6_findWords : ByteArray := prog_8_method_24_code
def yX6_findWords : MethodName := ⟨RX6, "findWords", "()V"⟩
abbrev cX6_wideOf : ByteArray := prog_8_method_25_code
def yX6_wideOf : MethodName := ⟨RX6, "wideOf", "(II)I"⟩
abbrev cX6_through : ByteArray := prog_8_method_26_code
def yX6_through : MethodName := ⟨RX6, "through", "(IIII)I"⟩
abbrev cX6_broken : ByteArray := prog_8_method_27_code
def yX6_broken : MethodName := ⟨RX6, "broken", "(II)I"⟩
abbrev cX6_line : ByteArray := prog_8_method_28_code
def yX6_line : MethodName := ⟨RX6, "line", "(I)I"⟩
abbrev cX6_often : ByteArray := prog_8_method_29_code
def yX6_often : MethodName := ⟨RX6, "often", "(I)I"⟩
abbrev cX6_stamp : ByteArray := prog_8_method_30_code
def yX6_stamp : MethodName := ⟨RX6, "stamp", "()I"⟩
abbrev cX6_sharpen : ByteArray := prog_8_method_31_code
def yX6_sharpen : MethodName := ⟨RX6, "sharpen", "(I)I"⟩
abbrev cX6_last : ByteArray := prog_8_method_32_code
def yX6_last : MethodName := ⟨RX6, "last", "(I)I"⟩
abbrev cX6_isSkin : ByteArray := prog_8_method_33_code
def yX6_isSkin : MethodName := ⟨RX6, "isSkin", "(I)Z"⟩
abbrev cX6_isSpot : ByteArray := prog_8_method_34_code
def yX6_isSpot : MethodName := ⟨RX6, "isSpot", "(III)Z"⟩
abbrev cX6_skin : ByteArray := prog_8_method_35_code
def yX6_skin : MethodName := ⟨RX6, "skin", "(III)I"⟩
abbrev cX6_flaw : ByteArray := prog_8_method_36_code
def yX6_flaw : MethodName := ⟨RX6, "flaw", "(III)I"⟩
abbrev cX6_fits : ByteArray := prog_8_method_37_code
def yX6_fits : MethodName := ⟨RX6, "fits", "(IIIII)Z"⟩
abbrev cX6_take : ByteArray := prog_8_method_38_code
def yX6_take : MethodName := ⟨RX6, "take", "(IIIIIZ)I"⟩
abbrev cX6_cutOf : ByteArray := prog_8_method_39_code
def yX6_cutOf : MethodName := ⟨RX6, "cutOf", "(III)I"⟩
abbrev cX6_cut : ByteArray := prog_8_method_40_code
def yX6_cut : MethodName := ⟨RX6, "cut", "(III)I"⟩
abbrev cX6_covers : ByteArray := prog_8_method_41_code
def yX6_covers : MethodName := ⟨RX6, "covers", "(IIII)I"⟩
abbrev cX6_spot : ByteArray := prog_8_method_42_code
def yX6_spot : MethodName := ⟨RX6, "spot", "(III)I"⟩
abbrev cX6_isDay : ByteArray := prog_8_method_43_code
def yX6_isDay : MethodName := ⟨RX6, "isDay", "(I)Z"⟩
abbrev cX6_days : ByteArray := prog_8_method_44_code
def yX6_days : MethodName := ⟨RX6, "days", "(I)I"⟩
abbrev cX6_rate : ByteArray := prog_8_method_45_code
def yX6_rate : MethodName := ⟨RX6, "rate", "(III)I"⟩
abbrev cX6_rateOf : ByteArray := prog_8_method_46_code
def yX6_rateOf : MethodName := ⟨RX6, "rateOf", "(III)I"⟩
abbrev cX6_rateAt : ByteArray := prog_8_method_47_code
def yX6_rateAt : MethodName := ⟨RX6, "rateAt", "(III)I"⟩
abbrev cX6_wages : ByteArray := prog_8_method_48_code
def yX6_wages : MethodName := ⟨RX6, "wages", "(III)I"⟩
abbrev cX6_count : ByteArray := prog_8_method_49_code
def yX6_count : MethodName := ⟨RX6, "count", "(I)I"⟩
def RJ6 : String := "java/lang/Integer"
def TJ6 : u_T := fun k => match k with
  | _ => ("", "", "", false)
def tyJ6 : Nat → FieldType := fun k => match k with
  | _ => .int
abbrev wsJ60 : List Cond := u_ws RJ6 TJ6 0
theorem nmJ6 : ∀ a, a < 0 → ∀ b, b < 0 → a ≠ b → (TJ6 a).2.1 ≠ (TJ6 b).2.1 := by decide +kernel
theorem tyJ6_ok : ∀ k, k < 0 → parseFieldDescriptor (TJ6 k).2.2.1 = some (tyJ6 k) := by decide +kernel
abbrev cJ6_bitCount_0f7a4 : ByteArray := prog_9_method_49_code
def yJ6_bitCount_0f7a4 : MethodName := ⟨RJ6, "bitCount", "(I)I"⟩
def RJ9 : String := "java/lang/Math"
def TJ9 : u_T := fun k => match k with
  | _ => ("", "", "", false)
def tyJ9 : Nat → FieldType := fun k => match k with
  | _ => .int
abbrev wsJ90 : List Cond := u_ws RJ9 TJ9 0
theorem nmJ9 : ∀ a, a < 0 → ∀ b, b < 0 → a ≠ b → (TJ9 a).2.1 ≠ (TJ9 b).2.1 := by decide +kernel
theorem tyJ9_ok : ∀ k, k < 0 → parseFieldDescriptor (TJ9 k).2.2.1 = some (tyJ9 k) := by decide +kernel
abbrev cJ9_max_7cf53 : ByteArray := prog_10_method_65_code
def yJ9_max_7cf53 : MethodName := ⟨RJ9, "max", "(II)I"⟩
def RL : String := "BinderyLaw"
abbrev cL_law : ByteArray := code
def yL_law : MethodName := ⟨RL, "law", "([I)Z"⟩
abbrev vwCl : List vw_C := [(RX0, TX0, 11), (RX1, TX1, 8), (RX2, TX2, 12), (RX3, TX3, 6), (RX4, TX4, 12), (RX5, TX5, 8), (RX6, TX6, 47)]
abbrev MD : Type := MethodName × ByteArray × Nat × Option FieldType
def mX0_init : MD := (yX0_init, cX0_init, 2, none)
def mX0_allOf : MD := (yX0_allOf, cX0_allOf, 1, (some .int))
def mX0_addGathering : MD := (yX0_addGathering, cX0_addGathering, 2, (some .int))
def mX5_within : MD := (yX5_within, cX5_within, 3, (some .boolean))
def mX0_hasGathering : MD := (yX0_hasGathering, cX0_hasGathering, 2, (some .boolean))
def mX0_hasLeaves : MD := (yX0_hasLeaves, cX0_hasLeaves, 3, (some .boolean))
def mJ6_bitCount_0f7a4 : MD := (yJ6_bitCount_0f7a4, cJ6_bitCount_0f7a4, 1, (some .int))
def mX0_inspect : MD := (yX0_inspect, cX0_inspect, 5, (some .int))
def mX0_mayMoveOn : MD := (yX0_mayMoveOn, cX0_mayMoveOn, 1, (some .boolean))
def mX0_moveOn : MD := (yX0_moveOn, cX0_moveOn, 1, (some .int))
def mX0_leavesBelieved : MD := (yX0_leavesBelieved, cX0_leavesBelieved, 3, (some .int))
def mX0_leavesInAll : MD := (yX0_leavesInAll, cX0_leavesInAll, 3, (some .int))
def mX1_init : MD := (yX1_init, cX1_init, 1, none)
def mX1_noteRate : MD := (yX1_noteRate, cX1_noteRate, 5, (some .int))
def mX1_notePass : MD := (yX1_notePass, cX1_notePass, 3, none)
def mX1_penceAt : MD := (yX1_penceAt, cX1_penceAt, 8, (some .int))
def mX1_earned : MD := (yX1_earned, cX1_earned, 6, (some .int))
def mX2_init : MD := (yX2_init, cX2_init, 1, none)
def mX2_clear : MD := (yX2_clear, cX2_clear, 1, none)
def mX2_enlist : MD := (yX2_enlist, cX2_enlist, 4, none)
def mX2_work : MD := (yX2_work, cX2_work, 6, (some .int))
def mX2_keepTrial : MD := (yX2_keepTrial, cX2_keepTrial, 4, none)
def mX2_search : MD := (yX2_search, cX2_search, 7, none)
def mX2_arrange : MD := (yX2_arrange, cX2_arrange, 2, (some .int))
def mX2_hasPlace : MD := (yX2_hasPlace, cX2_hasPlace, 2, (some .boolean))
def mX2_numberAt : MD := (yX2_numberAt, cX2_numberAt, 2, (some .int))
def mX2_placeOf : MD := (yX2_placeOf, cX2_placeOf, 3, (some .int))
def mX2_delayedBy : MD := (yX2_delayedBy, cX2_delayedBy, 6, (some .int))
def mX3_init : MD := (yX3_init, cX3_init, 4, none)
def mX3_hasPlace : MD := (yX3_hasPlace, cX3_hasPlace, 3, (some .boolean))
def mX3_stateOf : MD := (yX3_stateOf, cX3_stateOf, 3, (some .int))
def mX3_fill : MD := (yX3_fill, cX3_fill, 8, none)
def mX3_isFree : MD := (yX3_isFree, cX3_isFree, 7, (some .boolean))
def mX3_cutHere : MD := (yX3_cutHere, cX3_cutHere, 5, (some .boolean))
def mX3_cutCover : MD := (yX3_cutCover, cX3_cutCover, 5, (some .int))
def mX3_cutAlike : MD := (yX3_cutAlike, cX3_cutAlike, 5, (some .int))
def mX3_takeBackAlike : MD := (yX3_takeBackAlike, cX3_takeBackAlike, 2, none)
def mX4_init : MD := (yX4_init, cX4_init, 2, none)
def mX4_addSign : MD := (yX4_addSign, cX4_addSign, 2, (some .int))
def mX4_readWords : MD := (yX4_readWords, cX4_readWords, 4, (some .int))
def mX4_weigh : MD := (yX4_weigh, cX4_weigh, 10, none)
def mX4_layOut : MD := (yX4_layOut, cX4_layOut, 4, none)
def mX4_breakUp : MD := (yX4_breakUp, cX4_breakUp, 6, (some .int))
def mX4_countLetters : MD := (yX4_countLetters, cX4_countLetters, 3, (some .int))
def mX4_wouldBlunt : MD := (yX4_wouldBlunt, cX4_wouldBlunt, 2, (some .boolean))
def mX4_stampAll : MD := (yX4_stampAll, cX4_stampAll, 2, none)
def mX5_init : MD := (yX5_init, cX5_init, 1, none)
def mX5_book : MD := (yX5_book, cX5_book, 1, (some .int))
def mX5_bookAt : MD := (yX5_bookAt, cX5_bookAt, 2, (some (.object "Bindery$Book")))
def mX5_gather : MD := (yX5_gather, cX5_gather, 4, (some .int))
def mX5_look : MD := (yX5_look, cX5_look, 5, (some .int))
def mX5_pass : MD := (yX5_pass, cX5_pass, 3, (some .int))
def mX5_told : MD := (yX5_told, cX5_told, 4, (some .int))
def mX5_there : MD := (yX5_there, cX5_there, 4, (some .int))
def mX5_isBench : MD := (yX5_isBench, cX5_isBench, 1, (some .boolean))
def mX5_gone : MD := (yX5_gone, cX5_gone, 5, (some .int))
def mX5_hours : MD := (yX5_hours, cX5_hours, 5, (some .int))
def mX5_promise : MD := (yX5_promise, cX5_promise, 6, (some .int))
def mX5_plan : MD := (yX5_plan, cX5_plan, 4, (some .int))
def mX5_planned : MD := (yX5_planned, cX5_planned, 3, (some .int))
def mX5_delays : MD := (yX5_delays, cX5_delays, 3, (some .int))
def mX5_isSign : MD := (yX5_isSign, cX5_isSign, 1, (some .boolean))
def mX5_width : MD := (yX5_width, cX5_width, 4, (some .int))
def mX5_sign : MD := (yX5_sign, cX5_sign, 2, (some .int))
def mX5_wipe : MD := (yX5_wipe, cX5_wipe, 2, (some .int))
def mX5_broken : MD := (yX5_broken, cX5_broken, 3, (some .int))
def mX5_line : MD := (yX5_line, cX5_line, 2, (some .int))
def mX5_stamp : MD := (yX5_stamp, cX5_stamp, 2, (some .int))
def mX5_sharpen : MD := (yX5_sharpen, cX5_sharpen, 3, (some .int))
def mX5_last : MD := (yX5_last, cX5_last, 3, (some .int))
def mX5_isSize : MD := (yX5_isSize, cX5_isSize, 2, (some .boolean))
def mX5_skin : MD := (yX5_skin, cX5_skin, 4, (some .int))
def mX5_skinAt : MD := (yX5_skinAt, cX5_skinAt, 2, (some (.object "Bindery$Skin")))
def mX5_flaw : MD := (yX5_flaw, cX5_flaw, 5, (some .int))
def mX5_cut : MD := (yX5_cut, cX5_cut, 6, (some .int))
def mX5_takeBackAlike : MD := (yX5_takeBackAlike, cX5_takeBackAlike, 4, none)
def mX5_covers : MD := (yX5_covers, cX5_covers, 10, (some .int))
def mX5_spot : MD := (yX5_spot, cX5_spot, 5, (some .int))
def mX5_days : MD := (yX5_days, cX5_days, 2, (some .int))
def mX5_isDay : MD := (yX5_isDay, cX5_isDay, 1, (some .boolean))
def mX5_rate : MD := (yX5_rate, cX5_rate, 4, (some .int))
def mX5_rateAt : MD := (yX5_rateAt, cX5_rateAt, 4, (some .int))
def mX5_wages : MD := (yX5_wages, cX5_wages, 4, (some .int))
def mX5_count : MD := (yX5_count, cX5_count, 2, (some .int))
def mX6_init : MD := (yX6_init, cX6_init, 2, none)
def mX6_in : MD := (yX6_in, cX6_in, 3, (some .boolean))
def mX6_isBook : MD := (yX6_isBook, cX6_isBook, 2, (some .boolean))
def mX6_isBench : MD := (yX6_isBench, cX6_isBench, 1, (some .boolean))
def mX6_isGathering : MD := (yX6_isGathering, cX6_isGathering, 3, (some .boolean))
def mX6_many : MD := (yX6_many, cX6_many, 3, (some .int))
def mX6_book : MD := (yX6_book, cX6_book, 2, (some .int))
def mX6_gather : MD := (yX6_gather, cX6_gather, 4, (some .int))
def mX6_look : MD := (yX6_look, cX6_look, 7, (some .int))
def mX6_pass : MD := (yX6_pass, cX6_pass, 4, (some .int))
def mX6_told : MD := (yX6_told, cX6_told, 5, (some .int))
def mX6_there : MD := (yX6_there, cX6_there, 3, (some .int))
def mX6_gone : MD := (yX6_gone, cX6_gone, 4, (some .int))
def mX6_hours : MD := (yX6_hours, cX6_hours, 4, (some .int))
def mX6_promise : MD := (yX6_promise, cX6_promise, 5, (some .int))
def mX6_findEnds : MD := (yX6_findEnds, cX6_findEnds, 5, none)
def mX6_tell : MD := (yX6_tell, cX6_tell, 11, none)
def mX6_plan : MD := (yX6_plan, cX6_plan, 10, (some .int))
def mX6_planned : MD := (yX6_planned, cX6_planned, 3, (some .int))
def mX6_delays : MD := (yX6_delays, cX6_delays, 7, (some .int))
def mX6_width : MD := (yX6_width, cX6_width, 4, (some .int))
def mX6_sign : MD := (yX6_sign, cX6_sign, 2, (some .int))
def mX6_wipe : MD := (yX6_wipe, cX6_wipe, 2, (some .int))
def mX6_findWords : MD := (yX6_findWords, cX6_findWords, 2, none)
def mX6_wideOf : MD := (yX6_wideOf, cX6_wideOf, 5, (some .int))
def mX6_through : MD := (yX6_through, cX6_through, 7, (some .int))
def mX6_broken : MD := (yX6_broken, cX6_broken, 8, (some .int))
def mX6_line : MD := (yX6_line, cX6_line, 2, (some .int))
def mX6_often : MD := (yX6_often, cX6_often, 4, (some .int))
def mX6_stamp : MD := (yX6_stamp, cX6_stamp, 5, (some .int))
def mX6_sharpen : MD := (yX6_sharpen, cX6_sharpen, 3, (some .int))
def mX6_last : MD := (yX6_last, cX6_last, 3, (some .int))
def mX6_isSkin : MD := (yX6_isSkin, cX6_isSkin, 2, (some .boolean))
def mX6_isSpot : MD := (yX6_isSpot, cX6_isSpot, 4, (some .boolean))
def mX6_skin : MD := (yX6_skin, cX6_skin, 4, (some .int))
def mX6_flaw : MD := (yX6_flaw, cX6_flaw, 5, (some .int))
def mX6_fits : MD := (yX6_fits, cX6_fits, 9, (some .boolean))
def mX6_take : MD := (yX6_take, cX6_take, 9, (some .int))
def mX6_cutOf : MD := (yX6_cutOf, cX6_cutOf, 6, (some .int))
def mX6_cut : MD := (yX6_cut, cX6_cut, 5, (some .int))
def mX6_covers : MD := (yX6_covers, cX6_covers, 8, (some .int))
def mX6_spot : MD := (yX6_spot, cX6_spot, 4, (some .int))
def mX6_isDay : MD := (yX6_isDay, cX6_isDay, 1, (some .boolean))
def mX6_days : MD := (yX6_days, cX6_days, 2, (some .int))
def mX6_rate : MD := (yX6_rate, cX6_rate, 4, (some .int))
def mX6_rateOf : MD := (yX6_rateOf, cX6_rateOf, 7, (some .int))
def mX6_rateAt : MD := (yX6_rateAt, cX6_rateAt, 4, (some .int))
def mX6_wages : MD := (yX6_wages, cX6_wages, 6, (some .int))
def mX6_count : MD := (yX6_count, cX6_count, 2, (some .int))
def mJ9_max_7cf53 : MD := (yJ9_max_7cf53, cJ9_max_7cf53, 2, (some .int))
def mL_law : MD := (yL_law, cL_law, 4, some .boolean)
end
section
/-! values of the pure machine: an int, a reference (a number of a cell, or null), the script -/
abbrev PV : Type := Int32 ⊕ (Option Nat ⊕ Unit)
abbrev pv_i (x : Int32) : PV := Sum.inl x
abbrev pv_q (r : Option Nat) : PV := Sum.inr (Sum.inl r)
abbrev pv_r (k : Nat) : PV := Sum.inr (Sum.inl (some k))
abbrev pv_s : PV := Sum.inr (Sum.inr ())
def pm_v (b : Nat) (ad : Nat → Nat) (v : PV) : Value := match v with
  | .inl x => .int x
  | .inr (.inl r) => va_rf (r.map ad)
  | .inr (.inr _) => .ref b
theorem pm_cat (b : Nat) (ad : Nat → Nat) (v : PV) : (pm_v b ad v).category = 1 := by
  rcases v with x | (_ | r) | x <;> rfl
/-- shapes of the cells (an object of class ci; an array of kind t and length n), their ints, their references -/
abbrev SH : Type := List (Nat ⊕ (Nat × Nat))
abbrev MI : Type := Nat → Nat → Int32
abbrev MR : Type := Nat → Nat → Option Nat
abbrev PO : Type := Option PV → SH → MI → MR → Prop
def up_2 {α : Type} (f : Nat → Nat → α) (k j : Nat) (v : α) : Nat → Nat → α := fun a b => if a = k ∧ b = j then v else f a b
theorem up_2_row {α : Type} {f : Nat → Nat → α} {k j a : Nat} {v : α} (h : a ≠ k) : up_2 f k j v a = f a := by
  funext b
  simp [up_2, h]
def cl_n (ci : Nat) : Nat := match ci with
  | 0 => 11
  | 1 => 8
  | 2 => 12
  | 3 => 6
  | 4 => 12
  | 5 => 8
  | 6 => 47
  | _ => 0
def cl_ty (ci : Nat) : Nat → FieldType := match ci with
  | 0 => tyX0
  | 1 => tyX1
  | 2 => tyX2
  | 3 => tyX3
  | 4 => tyX4
  | 5 => tyX5
  | _ => tyX6
def cl_rf (t : FieldType) : Bool := match t with
  | .int => false
  | _ => true
def cl_ref (ci j : Nat) : Bool := cl_rf (cl_ty ci j)
def ce_v (ad : Nat → Nat) (mi : MI) (mr : MR) (k ci j : Nat) : Value := if cl_ref ci j = true then va_rf ((mr k j).map ad) else .int (mi k j)
def ce_fs (ad : Nat → Nat) (mi : MI) (mr : MR) (k ci : Nat) : List Value := (List.range (cl_n ci)).map (ce_v ad mi mr k ci)
def ce_ar (ad : Nat → Nat) (mi : MI) (mr : MR) (k t : Nat) : (Nat → Int32) ⊕ (Nat → Int64) ⊕ (Nat → UInt32) ⊕ (Nat → UInt64) ⊕ (Nat → Option Nat) := match t with
  | 0 => .inl (mi k)
  | 1 => .inl (mi k)
  | _ => .inr (.inr (.inr (.inr (fun j => (mr k j).map ad))))
def ce_at (cA : Nat → ClassId) (ad : Nat → Nat) (mi : MI) (mr : MR) (k : Nat) (s : Nat ⊕ (Nat × Nat)) : va_E := match s with
  | .inl ci => .inr (ci, ce_fs ad mi mr k ci)
  | .inr (t, n) => .inl (cA t, n, ce_ar ad mi mr k t)
def ce_ws (cA : Nat → ClassId) (ad : Nat → Nat) (sh : SH) (mi : MI) (mr : MR) : va_W := sh.mapIdx (fun k s => (ad k, ce_at cA ad mi mr k s))
def ce_ty (t : Nat) : FieldType := match t with
  | 0 => .int
  | 1 => .boolean
  | 2 => .object "Bindery$Book"
  | _ => .object "Bindery$Skin"
def ce_tys (cA : Nat → ClassId) : List (ClassId × FieldType) := [(cA 0, ce_ty 0), (cA 1, ce_ty 1), (cA 2, ce_ty 2), (cA 3, ce_ty 3)]
theorem ce_get {cA : Nat → ClassId} {ad : Nat → Nat} {sh : SH} {mi : MI} {mr : MR} {k : Nat} {s : Nat ⊕ (Nat × Nat)} (h : sh[k]? = some s) : (ce_ws cA ad sh mi mr)[k]? = some (ad k, ce_at cA ad mi mr k s) := by
  simp [ce_ws, List.getElem?_mapIdx, h]
theorem ce_fs_at {ad : Nat → Nat} {mi : MI} {mr : MR} {k ci j : Nat} (h : j < cl_n ci) : (ce_fs ad mi mr k ci)[j]? = some (ce_v ad mi mr k ci j) := by
  simp [ce_fs, h]
theorem ce_fs_len {ad : Nat → Nat} {mi : MI} {mr : MR} {k ci : Nat} : (ce_fs ad mi mr k ci).length = cl_n ci := by
  simp [ce_fs]
/-- cells of which nothing differs -/
theorem ce_at_eq {cA : Nat → ClassId} {ad : Nat → Nat} {mi mi2 : MI} {mr mr2 : MR} {k : Nat} {s : Nat ⊕ (Nat × Nat)} (h1 : mi2 k = mi k) (h2 : mr2 k = mr k) : ce_at cA ad mi2 mr2 k s = ce_at cA ad mi mr k s := by
  rcases s with ci | ⟨t, n⟩
  · simp only [ce_at, ce_fs]
    congr 2
    refine List.map_congr_left (fun j _ => ?_)
    simp [ce_v, h1, h2]
  · simp only [ce_at, ce_ar, h1, h2]
theorem ce_set {cA : Nat → ClassId} {ad : Nat → Nat} {sh : SH} {mi mi2 : MI} {mr mr2 : MR} {k : Nat} {s : Nat ⊕ (Nat × Nat)} {w : va_E} (h : sh[k]? = some s) (h1 : ∀ i, i ≠ k → mi2 i = mi i) (h2 : ∀ i, i ≠ k → mr2 i = mr i) (hw : w = ce_at cA ad mi2 mr2 k s) : (ce_ws cA ad sh mi mr).set k (ad k, w) = ce_ws cA ad sh mi2 mr2 := by
  subst hw
  apply List.ext_getElem?
  intro i
  by_cases hi : i = k
  · subst hi
    rw [ce_get h]
    have hl : i < (ce_ws cA ad sh mi mr).length := by
      have := (List.getElem?_eq_some_iff.mp h).1
      simpa [ce_ws] using this
    rw [List.getElem?_set_self hl]
  · rw [List.getElem?_set_ne (Ne.symm hi)]
    simp only [ce_ws, List.getElem?_mapIdx]
    cases hs : sh[i]? with
    | none => rfl
    | some s2 => simp [ce_at_eq (cA := cA) (ad := ad) (s := s2) (h1 i hi) (h2 i hi)]
/-- the words of the tables that ride along -/
def tb_w : List Cond := lw_tbl.filter goodWord
theorem tb_of {w : Cond} (h : w ∈ lw_tbl) (g : goodWord w = true) : w ∈ tb_w := List.mem_filter.mpr ⟨h, g⟩
theorem tb_good {w : Cond} (h : w ∈ tb_w) : goodWord w = true := (List.mem_filter.mp h).2
def nl_w : List (String × Nat × MethodName × String) := [("Bindery", 17, yX2_init, "Bindery"), ("Bindery", 37, yX1_init, "Bindery"), ("Bindery$Book", 50, yX5_within, "Bindery"), ("Bindery$Planner", 68, yX5_within, "Bindery"), ("Bindery$Skin", 31, yX5_within, "Bindery"), ("Bindery$Ledger", 37, yX5_within, "Bindery")]
def kk_w (D : va_G) (cA : Nat → ClassId) (U : State) : Prop := va_K D vwCl (ce_tys cA) U ∧ (∀ q ∈ nl_w, va_Nw (.methodLinkNest q.1 q.2.1 q.2.2.1 q.2.2.2) U) ∧ va_AO "Bindery$Book" U ∧ va_AO "Bindery$Skin" U
theorem kk_w.warm {D : va_G} {cA : Nat → ClassId} {s U : State} (hW : s.WarmedH U.vm) (h : kk_w D cA s) : kk_w D cA U :=
  ⟨va_K.moved hW.alike h.1, fun q hq => va_Nw.warmM hW (h.2.1 q hq), va_AO.moved hW.alike h.2.2.1, va_AO.moved hW.alike h.2.2.2⟩
theorem kk_w.same {D : va_G} {cA : Nat → ClassId} {s U : State} (hv : s.vm = U.vm) (h : kk_w D cA s) : kk_w D cA U := by
  have ha : s.vm.Alike U.vm := by rw [← hv]; exact Vm.Alike.refl s.vm
  exact ⟨va_K.moved ha h.1, fun q hq => va_Nw.same rfl hv (h.2.1 q hq), va_AO.moved ha h.2.2.1, va_AO.moved ha h.2.2.2⟩
/-- what stands through a method -/
def cx_c (M : MD) (p : Program) (s : State) (mid : MethodId) (args : Array Value) (meth : Method) (c : Code) (D : va_G) (cA : Nat → ClassId) (A : Nat → Prop) : Prop :=
  p.tables.exec = Jvm.exec ∧ c.code = M.2.1 ∧ meth.sig.returnType = M.2.2.2 ∧ c.maxLocals = M.2.2.1 ∧ s.vm.findClass M.1.cls = some mid.cls ∧ (∀ w ∈ tb_w, w.before args s = true) ∧ meth.locks = false ∧ meth.name = M.1.name ∧ kk_w D cA s ∧ ∀ q, s.heap.size ≤ q → A q
def sx_c (X : Option (Nat × (Nat → Int32))) (b : Nat) (A : Nat → Prop) (s : State) : Prop := ∀ (n : Nat) (xs : Nat → Int32), X = some (n, xs) → va_X b n xs s s.heap ∧ b < s.heap.size ∧ ¬ A b
def wx_c (D : va_G) (cA : Nat → ClassId) (ad : Nat → Nat) (sh : SH) (mi : MI) (mr : MR) (A : Nat → Prop) (s : State) (H : Heap) (locs : List Loc) : Prop :=
  va_P D vwCl (ce_ws cA ad sh mi mr) H ∧ va_D A (ce_ws cA ad sh mi mr) ∧ va_S A s.heap H locs
def lh_c (ls : Array Slot) (n b : Nat) (ad : Nat → Nat) (L : List (Option PV)) : Prop := ls.size = n ∧ lv_wf ls ∧ ∀ (k : Nat) (v : PV), L[k]? = some (some v) → ls[k]? = some (.val (pm_v b ad v))
def ex_c (sh : SH) (ad : Nat → Nat) (sh2 : SH) (ad2 : Nat → Nat) : Prop := sh.length ≤ sh2.length ∧ (∀ i, i < sh.length → ad2 i = ad i) ∧ (sh2.length = sh.length → ad2 = ad)
theorem ex_rf {sh : SH} {ad : Nat → Nat} : ex_c sh ad sh ad := ⟨Nat.le_refl _, fun _ _ => rfl, fun _ => rfl⟩
theorem ex_tr {sh sh1 sh2 : SH} {ad ad1 ad2 : Nat → Nat} (h : ex_c sh ad sh1 ad1) (h2 : ex_c sh1 ad1 sh2 ad2) : ex_c sh ad sh2 ad2 :=
  ⟨Nat.le_trans h.1 h2.1, fun i hi => (h2.2.1 i (Nat.lt_of_lt_of_le hi h.1)).trans (h.2.1 i hi), fun hh => by
    have e1 : sh1.length = sh.length := Nat.le_antisymm (by rw [← hh]; exact h2.1) h.1
    exact (h2.2.2 (hh.trans e1.symm)).trans (h.2.2 e1)⟩
def rt_c (M : MD) (pc : Nat) (v : Option PV) : Prop := match v with
  | none => decode M.2.1 pc = .ok (.return_, 1) ∧ M.2.2.2 = none
  | some (.inl x) => decode M.2.1 pc = .ok (.ireturn, 1) ∧ ∃ ty, M.2.2.2 = some ty ∧ narrow ty (.int x) = .int x
  | some (.inr (.inl _)) => decode M.2.1 pc = .ok (.areturn, 1) ∧ ∃ n, M.2.2.2 = some (.object n)
  | some (.inr (.inr _)) => False
/-- THE JUDGEMENT: from pc with these locals, this stack, these cells the method returns, and what it returns is as Po says; at most mc cells of ms slots are made; d frames are enough -/
def EV (X : Option (Nat × (Nat → Int32))) (d mc ms : Nat) (M : MD) (pc : Nat) (L : List (Option PV)) (S : List PV) (sh : SH) (mi : MI) (mr : MR) (Po : PO) : Prop :=
  ∀ (p : Program) (l : Launch) (e : Env) (R : Room) (s : State) (mid : MethodId) (args : Array Value) (below : List Frame) (meth : Method) (c : Code) (D : va_G) (cA : Nat → ClassId) (A : Nat → Prop) (b : Nat) (Q : State → Prop) (ad : Nat → Nat) (H : Heap) (locs : List Loc) (cells slots : Nat) (ls : Array Slot),
    cx_c M p s mid args meth c D cA A → sx_c X b A s → (d ≤ R.frames ∧ 40 * d ≤ R.locals ∧ cells + mc ≤ R.cells ∧ slots + ms ≤ R.slots) → wx_c D cA ad sh mi mr A s H locs → lh_c ls M.2.2.1 b ad L →
    (∀ (v : Option PV) (sh2 : SH) (mi2 : MI) (mr2 : MR) (ad2 : Nat → Nat) (H2 : Heap) (locs2 : List Loc) (cells2 slots2 pc2 : Nat) (ls2 : Array Slot), Po v sh2 mi2 mr2 → ex_c sh ad sh2 ad2 → wx_c D cA ad2 sh2 mi2 mr2 A s H2 locs2 → (cells2 ≤ cells + mc ∧ slots2 ≤ slots + ms) → rt_c M pc2 v →
      W p l e R s mid args below meth c H2 locs2 cells2 slots2 Q (F0 mid pc2 ls2 (v.toList.map (pm_v b ad2)))) →
    W p l e R s mid args below meth c H locs cells slots Q (F0 mid pc ls (S.map (pm_v b ad)))
/-- locals as the kit lists them -/
def as_l (b : Nat) (ad : Nat → Nat) (L : List (Option PV)) : List (Nat × Value) := L.zipIdx.filterMap (fun q => q.1.map (fun v => (q.2, pm_v b ad v)))
theorem as_mem {b : Nat} {ad : Nat → Nat} {L : List (Option PV)} {k : Nat} {w : Value} : (k, w) ∈ as_l b ad L ↔ ∃ v, L[k]? = some (some v) ∧ w = pm_v b ad v := by
  constructor
  · intro h
    obtain ⟨⟨o, i⟩, h1, h2⟩ := List.mem_filterMap.mp h
    have h3 := List.mem_zipIdx_iff_getElem?.mp h1
    cases o with
    | none => cases h2
    | some v =>
      cases h2
      exact ⟨v, h3, rfl⟩
  · rintro ⟨v, h1, rfl⟩
    exact List.mem_filterMap.mpr ⟨(some v, k), List.mem_zipIdx_iff_getElem?.mpr h1, rfl⟩
theorem as_has {ls : Array Slot} {n b : Nat} {ad : Nat → Nat} {L : List (Option PV)} (h : lh_c ls n b ad L) : lv_has ls n (as_l b ad L) := by
  refine ⟨h.1, h.2.1, fun q hq => ?_⟩
  obtain ⟨k, w⟩ := q
  obtain ⟨v, h1, rfl⟩ := as_mem.mp hq
  exact h.2.2 k v h1
theorem as_set {ls : Array Slot} {n b i : Nat} {ad : Nat → Nat} {L : List (Option PV)} {v : PV} (h : lv_has ls n ((i, pm_v b ad v) :: (as_l b ad L).filter (fun q => !(q.1 == i) && !(q.1 + 1 == i && q.2.category == 2)))) : lh_c ls n b ad (L.set i (some v)) := by
  refine ⟨h.1, h.2.1, fun k w hk => ?_⟩
  by_cases hi : k = i
  · subst hi
    have hl : k < L.length := by
      have := (List.getElem?_eq_some_iff.mp hk).1
      simpa using this
    rw [List.getElem?_set_self hl] at hk
    cases hk
    exact h.2.2 (k, pm_v b ad v) List.mem_cons_self
  · rw [List.getElem?_set_ne (Ne.symm hi)] at hk
    refine h.2.2 (k, pm_v b ad w) (List.mem_cons_of_mem _ (List.mem_filter.mpr ⟨as_mem.mpr ⟨w, hk, rfl⟩, ?_⟩))
    simp [hi, pm_cat]
section EVS
variable {X : Option (Nat × (Nat → Int32))} {d mc ms : Nat} {M : MD} {pc : Nat} {L : List (Option PV)} {S : List PV} {sh : SH} {mi : MI} {mr : MR} {Po : PO}
theorem ev_lift {pc2 : Nat} {S2 : List PV} (h : ∀ (p : Program) (l : Launch) (e : Env) (R : Room) (s : State) (mid : MethodId) (args : Array Value) (below : List Frame) (meth : Method) (c : Code) (H : Heap) (locs : List Loc) (cells slots : Nat) (Q : State → Prop) (ls : Array Slot) (b : Nat) (ad : Nat → Nat) (D : va_G) (cA : Nat → ClassId) (A : Nat → Prop),
      cx_c M p s mid args meth c D cA A → sx_c X b A s → wx_c D cA ad sh mi mr A s H locs → lh_c ls M.2.2.1 b ad L → W p l e R s mid args below meth c H locs cells slots Q (F0 mid pc2 ls (S2.map (pm_v b ad))) → W p l e R s mid args below meth c H locs cells slots Q (F0 mid pc ls (S.map (pm_v b ad))))
    (kk : EV X d mc ms M pc2 L S2 sh mi mr Po) : EV X d mc ms M pc L S sh mi mr Po :=
  fun p l e R s mid args below meth c D cA A b Q ad H locs cells slots ls hC hX hR hW hl hr => h p l e R s mid args below meth c H locs cells slots Q ls b ad D cA A hC hX hW hl (kk p l e R s mid args below meth c D cA A b Q ad H locs cells slots ls hC hX hR hW hl hr)
theorem ev_iconst {n : Int} {v : Int32} (hd : decode M.2.1 pc = .ok (.iconst n, 1)) (hv : Int32.ofInt n = v) (kk : EV X d mc ms M (pc + 1) L (pv_i v :: S) sh mi mr Po) : EV X d mc ms M pc L S sh mi mr Po :=
  ev_lift (fun _ _ _ _ _ _ _ _ _ _ _ _ _ _ _ _ _ _ _ _ _ hC _ _ _ k => lv_iconst hC.1 hC.2.1 hd hv k) kk
theorem ev_bipush {n : Int} {v : Int32} (hd : decode M.2.1 pc = .ok (.bipush n, 2)) (hv : (Int8.ofInt n).toInt32 = v) (kk : EV X d mc ms M (pc + 2) L (pv_i v :: S) sh mi mr Po) : EV X d mc ms M pc L S sh mi mr Po :=
  ev_lift (fun _ _ _ _ _ _ _ _ _ _ _ _ _ _ _ _ _ _ _ _ _ hC _ _ _ k => lv_bipush hC.1 hC.2.1 hd hv k) kk
theorem ev_sipush {n : Int} {v : Int32} (hd : decode M.2.1 pc = .ok (.sipush n, 3)) (hv : (Int16.ofInt n).toInt32 = v) (kk : EV X d mc ms M (pc + 3) L (pv_i v :: S) sh mi mr Po) : EV X d mc ms M pc L S sh mi mr Po :=
  ev_lift (fun _ _ _ _ _ _ _ _ _ _ _ _ _ _ _ _ _ _ _ _ _ hC _ _ _ k => lv_sipush hC.1 hC.2.1 hd hv k) kk
theorem ev_ldc {idx : Nat} {v : Int32} (hd : decode M.2.1 pc = .ok (.ldc idx, 2)) (hw : Cond.constant M.1.cls idx v ∈ tb_w) (kk : EV X d mc ms M (pc + 2) L (pv_i v :: S) sh mi mr Po) : EV X d mc ms M pc L S sh mi mr Po :=
  ev_lift (fun _ _ _ _ _ _ _ _ _ _ _ _ _ _ _ _ _ _ _ _ _ hC _ _ _ k => lv_ldc hC.1 hC.2.1 hC.2.2.2.2.1 (hC.2.2.2.2.2.1 _ hw) hd k) kk
theorem ev_ldcw {idx : Nat} {v : Int32} (hd : decode M.2.1 pc = .ok (.ldc_w idx, 3)) (hw : Cond.constant M.1.cls idx v ∈ tb_w) (kk : EV X d mc ms M (pc + 3) L (pv_i v :: S) sh mi mr Po) : EV X d mc ms M pc L S sh mi mr Po :=
  ev_lift (fun _ _ _ _ _ _ _ _ _ _ _ _ _ _ _ _ _ _ _ _ _ hC _ _ _ k => lv_ldcw hC.1 hC.2.1 hC.2.2.2.2.1 (hC.2.2.2.2.2.1 _ hw) hd k) kk
theorem ev_iload_n {k : Fin 4} {x : Int32} (hd : decode M.2.1 pc = .ok (.iload_n k, 1)) (hl : L[(k : Nat)]? = some (some (pv_i x))) (kk : EV X d mc ms M (pc + 1) L (pv_i x :: S) sh mi mr Po) : EV X d mc ms M pc L S sh mi mr Po :=
  ev_lift (fun _ _ _ _ _ _ _ _ _ _ _ _ _ _ _ _ _ _ _ _ _ hC _ _ hL k => lv_iload_n hC.1 hC.2.1 hd rfl (hL.2.2 _ _ hl) k) kk
theorem ev_iload {k : Nat} {x : Int32} (hd : decode M.2.1 pc = .ok (.iload k, 2)) (hl : L[k]? = some (some (pv_i x))) (kk : EV X d mc ms M (pc + 2) L (pv_i x :: S) sh mi mr Po) : EV X d mc ms M pc L S sh mi mr Po :=
  ev_lift (fun _ _ _ _ _ _ _ _ _ _ _ _ _ _ _ _ _ _ _ _ _ hC _ _ hL k => lv_iload hC.1 hC.2.1 hd (hL.2.2 _ _ hl) k) kk
theorem ev_aload_n {k : Fin 4} {r : Option Nat} (hd : decode M.2.1 pc = .ok (.aload_n k, 1)) (hl : L[(k : Nat)]? = some (some (pv_q r))) (kk : EV X d mc ms M (pc + 1) L (pv_q r :: S) sh mi mr Po) : EV X d mc ms M pc L S sh mi mr Po := by
  cases r with
  | none => exact ev_lift (fun _ _ _ _ _ _ _ _ _ _ _ _ _ _ _ _ _ _ _ _ _ hC _ _ hL k => lv_aload_nN hC.1 hC.2.1 hd rfl (hL.2.2 _ _ hl) k) kk
  | some r => exact ev_lift (fun _ _ _ _ _ _ _ _ _ _ _ _ _ _ _ _ _ _ _ _ _ hC _ _ hL k => lv_aload_n hC.1 hC.2.1 hd rfl (hL.2.2 _ _ hl) k) kk
theorem ev_aload {k : Nat} {r : Option Nat} (hd : decode M.2.1 pc = .ok (.aload k, 2)) (hl : L[k]? = some (some (pv_q r))) (kk : EV X d mc ms M (pc + 2) L (pv_q r :: S) sh mi mr Po) : EV X d mc ms M pc L S sh mi mr Po := by
  cases r with
  | none => exact ev_lift (fun _ _ _ _ _ _ _ _ _ _ _ _ _ _ _ _ _ _ _ _ _ hC _ _ hL k => lv_aloadN hC.1 hC.2.1 hd (hL.2.2 _ _ hl) k) kk
  | some r => exact ev_lift (fun _ _ _ _ _ _ _ _ _ _ _ _ _ _ _ _ _ _ _ _ _ hC _ _ hL k => lv_aload hC.1 hC.2.1 hd (hL.2.2 _ _ hl) k) kk
theorem ev_sload {k : Fin 4} (hd : decode M.2.1 pc = .ok (.aload_n k, 1)) (hl : L[(k : Nat)]? = some (some pv_s)) (kk : EV X d mc ms M (pc + 1) L (pv_s :: S) sh mi mr Po) : EV X d mc ms M pc L S sh mi mr Po :=
  ev_lift (fun _ _ _ _ _ _ _ _ _ _ _ _ _ _ _ _ _ _ _ _ _ hC _ _ hL k => lv_aload_n hC.1 hC.2.1 hd rfl (hL.2.2 _ _ hl) k) kk
theorem ev_null (hd : decode M.2.1 pc = .ok (.aconst_null, 1)) (kk : EV X d mc ms M (pc + 1) L (pv_q none :: S) sh mi mr Po) : EV X d mc ms M pc L S sh mi mr Po :=
  ev_lift (fun _ _ _ _ _ _ _ _ _ _ _ _ _ _ _ _ _ _ _ _ _ hC _ _ _ k => lv_null hC.1 hC.2.1 hd k) kk
theorem ev_iadd {x y : Int32} (hd : decode M.2.1 pc = .ok (.iadd, 1)) (kk : EV X d mc ms M (pc + 1) L (pv_i (x + y) :: S) sh mi mr Po) : EV X d mc ms M pc L (pv_i y :: pv_i x :: S) sh mi mr Po :=
  ev_lift (fun _ _ _ _ _ _ _ _ _ _ _ _ _ _ _ _ _ _ _ _ _ hC _ _ _ k => lv_iadd hC.1 hC.2.1 hd k) kk
theorem ev_isub {x y : Int32} (hd : decode M.2.1 pc = .ok (.isub, 1)) (kk : EV X d mc ms M (pc + 1) L (pv_i (x - y) :: S) sh mi mr Po) : EV X d mc ms M pc L (pv_i y :: pv_i x :: S) sh mi mr Po :=
  ev_lift (fun _ _ _ _ _ _ _ _ _ _ _ _ _ _ _ _ _ _ _ _ _ hC _ _ _ k => lv_isub hC.1 hC.2.1 hd k) kk
theorem ev_imul {x y : Int32} (hd : decode M.2.1 pc = .ok (.imul, 1)) (kk : EV X d mc ms M (pc + 1) L (pv_i (x * y) :: S) sh mi mr Po) : EV X d mc ms M pc L (pv_i y :: pv_i x :: S) sh mi mr Po :=
  ev_lift (fun _ _ _ _ _ _ _ _ _ _ _ _ _ _ _ _ _ _ _ _ _ hC _ _ _ k => lv_imul hC.1 hC.2.1 hd k) kk
theorem ev_iand {x y : Int32} (hd : decode M.2.1 pc = .ok (.iand, 1)) (kk : EV X d mc ms M (pc + 1) L (pv_i (x &&& y) :: S) sh mi mr Po) : EV X d mc ms M pc L (pv_i y :: pv_i x :: S) sh mi mr Po :=
  ev_lift (fun _ _ _ _ _ _ _ _ _ _ _ _ _ _ _ _ _ _ _ _ _ hC _ _ _ k => lv_iand hC.1 hC.2.1 hd k) kk
theorem ev_ior {x y : Int32} (hd : decode M.2.1 pc = .ok (.ior, 1)) (kk : EV X d mc ms M (pc + 1) L (pv_i (x ||| y) :: S) sh mi mr Po) : EV X d mc ms M pc L (pv_i y :: pv_i x :: S) sh mi mr Po :=
  ev_lift (fun _ _ _ _ _ _ _ _ _ _ _ _ _ _ _ _ _ _ _ _ _ hC _ _ _ k => lv_ior hC.1 hC.2.1 hd k) kk
theorem ev_ixor {x y : Int32} (hd : decode M.2.1 pc = .ok (.ixor, 1)) (kk : EV X d mc ms M (pc + 1) L (pv_i (x ^^^ y) :: S) sh mi mr Po) : EV X d mc ms M pc L (pv_i y :: pv_i x :: S) sh mi mr Po :=
  ev_lift (fun _ _ _ _ _ _ _ _ _ _ _ _ _ _ _ _ _ _ _ _ _ hC _ _ _ k => lv_ixor hC.1 hC.2.1 hd k) kk
theorem ev_idiv {x y : Int32} (hd : decode M.2.1 pc = .ok (.idiv, 1)) (hy : ¬ y = 0) (kk : EV X d mc ms M (pc + 1) L (pv_i (x / y) :: S) sh mi mr Po) : EV X d mc ms M pc L (pv_i y :: pv_i x :: S) sh mi mr Po :=
  ev_lift (fun _ _ _ _ _ _ _ _ _ _ _ _ _ _ _ _ _ _ _ _ _ hC _ _ _ k => lv_idiv hC.1 hC.2.1 hd hy k) kk
theorem ev_irem {x y : Int32} (hd : decode M.2.1 pc = .ok (.irem, 1)) (hy : ¬ y = 0) (kk : EV X d mc ms M (pc + 1) L (pv_i (x - x / y * y) :: S) sh mi mr Po) : EV X d mc ms M pc L (pv_i y :: pv_i x :: S) sh mi mr Po :=
  ev_lift (fun _ _ _ _ _ _ _ _ _ _ _ _ _ _ _ _ _ _ _ _ _ hC _ _ _ k => lv_irem hC.1 hC.2.1 hd hy k) kk
theorem ev_ineg {x : Int32} (hd : decode M.2.1 pc = .ok (.ineg, 1)) (kk : EV X d mc ms M (pc + 1) L (pv_i (-x) :: S) sh mi mr Po) : EV X d mc ms M pc L (pv_i x :: S) sh mi mr Po :=
  ev_lift (fun _ _ _ _ _ _ _ _ _ _ _ _ _ _ _ _ _ _ _ _ _ hC _ _ _ k => lv_ineg hC.1 hC.2.1 hd k) kk
theorem ev_ishl {x y : Int32} (hd : decode M.2.1 pc = .ok (.ishl, 1)) (kk : EV X d mc ms M (pc + 1) L (pv_i (x <<< (y &&& 31)) :: S) sh mi mr Po) : EV X d mc ms M pc L (pv_i y :: pv_i x :: S) sh mi mr Po :=
  ev_lift (fun _ _ _ _ _ _ _ _ _ _ _ _ _ _ _ _ _ _ _ _ _ hC _ _ _ k => lv_ishl hC.1 hC.2.1 hd k) kk
theorem ev_ishr {x y : Int32} (hd : decode M.2.1 pc = .ok (.ishr, 1)) (kk : EV X d mc ms M (pc + 1) L (pv_i (x >>> (y &&& 31)) :: S) sh mi mr Po) : EV X d mc ms M pc L (pv_i y :: pv_i x :: S) sh mi mr Po :=
  ev_lift (fun _ _ _ _ _ _ _ _ _ _ _ _ _ _ _ _ _ _ _ _ _ hC _ _ _ k => lv_ishr hC.1 hC.2.1 hd k) kk
theorem ev_iushr {x y : Int32} (hd : decode M.2.1 pc = .ok (.iushr, 1)) (kk : EV X d mc ms M (pc + 1) L (pv_i (x.toUInt32 >>> (y.toUInt32 &&& Int32.toUInt32 31)).toInt32 :: S) sh mi mr Po) : EV X d mc ms M pc L (pv_i y :: pv_i x :: S) sh mi mr Po :=
  ev_lift (fun _ _ _ _ _ _ _ _ _ _ _ _ _ _ _ _ _ _ _ _ _ hC _ _ _ k => lv_iushr hC.1 hC.2.1 hd rfl k) kk
theorem ev_dup {v : PV} (hd : decode M.2.1 pc = .ok (.dup, 1)) (kk : EV X d mc ms M (pc + 1) L (v :: v :: S) sh mi mr Po) : EV X d mc ms M pc L (v :: S) sh mi mr Po :=
  ev_lift (fun _ _ _ _ _ _ _ _ _ _ _ _ _ _ _ _ b ad _ _ _ hC _ _ _ k => lv_dup hC.1 hC.2.1 hd (pm_cat b ad v) k) kk
theorem ev_pop {v : PV} (hd : decode M.2.1 pc = .ok (.pop, 1)) (kk : EV X d mc ms M (pc + 1) L S sh mi mr Po) : EV X d mc ms M pc L (v :: S) sh mi mr Po :=
  ev_lift (fun _ _ _ _ _ _ _ _ _ _ _ _ _ _ _ _ b ad _ _ _ hC _ _ _ k => lv_pop hC.1 hC.2.1 hd (pm_cat b ad v) k) kk
theorem ev_goto {off : Int} {tgt : Nat} (hd : decode M.2.1 pc = .ok (.goto off, 3)) (ht : (pc : Int) + off = (tgt : Int)) (kk : EV X d mc ms M tgt L S sh mi mr Po) : EV X d mc ms M pc L S sh mi mr Po :=
  ev_lift (fun _ _ _ _ _ _ _ _ _ _ _ _ _ _ _ _ _ _ _ _ _ hC _ _ _ k => lv_goto hC.1 hC.2.1 hd ht k) kk
end EVS
end
