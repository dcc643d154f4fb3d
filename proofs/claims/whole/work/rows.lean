section
-- ===== PART A: goes FIRST, ahead of the names: the tables' words, and 'selects' of the private methods out of them =====
/-- a private method of a class that the tables say can be made, by its rows of tables_1 -/
def lw_okq (q : MethodName × Nat) : Prop := (q.1.cls ≠ "java/lang/invoke/MethodHandle" ∧ q.1.cls ≠ "java/lang/invoke/VarHandle") ∧ Cond.instantiable q.1.cls q.2 ∈ tables_1 ∧ Cond.privateMethod q.1 ∈ tables_1 ∧ Cond.instanceMethod q.1 ∈ tables_1
theorem lw_p0 : lw_okq (⟨"SmellMoorings", "endsAt", "(III)Z"⟩, 8) := ⟨⟨by decide +kernel, by decide +kernel⟩, List.mem_of_getElem? (i := 17) (by decide +kernel), List.mem_of_getElem? (i := 496) (by decide +kernel), List.mem_of_getElem? (i := 497) (by decide +kernel)⟩
theorem lw_p1 : lw_okq (⟨"SmellMoorings", "bitsThatFit", "([IIII)I"⟩, 8) := ⟨⟨by decide +kernel, by decide +kernel⟩, List.mem_of_getElem? (i := 17) (by decide +kernel), List.mem_of_getElem? (i := 521) (by decide +kernel), List.mem_of_getElem? (i := 522) (by decide +kernel)⟩
theorem lw_p2 : lw_okq (⟨"SmellMoorings", "spreadAnHour", "(I)V"⟩, 8) := ⟨⟨by decide +kernel, by decide +kernel⟩, List.mem_of_getElem? (i := 17) (by decide +kernel), List.mem_of_getElem? (i := 547) (by decide +kernel), List.mem_of_getElem? (i := 548) (by decide +kernel)⟩
theorem lw_p3 : lw_okq (⟨"SmellMoorings", "changeByDraw", "(I)V"⟩, 8) := ⟨⟨by decide +kernel, by decide +kernel⟩, List.mem_of_getElem? (i := 17) (by decide +kernel), List.mem_of_getElem? (i := 563) (by decide +kernel), List.mem_of_getElem? (i := 564) (by decide +kernel)⟩
theorem lw_p4 : lw_okq (⟨"SmellMooringsModel", "firstPost", "(III)V"⟩, 35) := ⟨⟨by decide +kernel, by decide +kernel⟩, List.mem_of_getElem? (i := 579) (by decide +kernel), List.mem_of_getElem? (i := 585) (by decide +kernel), List.mem_of_getElem? (i := 586) (by decide +kernel)⟩
theorem lw_p5 : lw_okq (⟨"SmellMooringsModel", "setsPost", "(IIII)V"⟩, 35) := ⟨⟨by decide +kernel, by decide +kernel⟩, List.mem_of_getElem? (i := 579) (by decide +kernel), List.mem_of_getElem? (i := 589) (by decide +kernel), List.mem_of_getElem? (i := 590) (by decide +kernel)⟩
theorem lw_p6 : lw_okq (⟨"SmellMooringsModel", "firstOne", "(III)V"⟩, 35) := ⟨⟨by decide +kernel, by decide +kernel⟩, List.mem_of_getElem? (i := 579) (by decide +kernel), List.mem_of_getElem? (i := 593) (by decide +kernel), List.mem_of_getElem? (i := 594) (by decide +kernel)⟩
theorem lw_p7 : lw_okq (⟨"SmellMooringsModel", "readsItem", "()Z"⟩, 35) := ⟨⟨by decide +kernel, by decide +kernel⟩, List.mem_of_getElem? (i := 579) (by decide +kernel), List.mem_of_getElem? (i := 718) (by decide +kernel), List.mem_of_getElem? (i := 719) (by decide +kernel)⟩
theorem lw_p8 : lw_okq (⟨"SmellMooringsModel", "here", "()I"⟩, 35) := ⟨⟨by decide +kernel, by decide +kernel⟩, List.mem_of_getElem? (i := 579) (by decide +kernel), List.mem_of_getElem? (i := 722) (by decide +kernel), List.mem_of_getElem? (i := 723) (by decide +kernel)⟩
theorem lw_p9 : lw_okq (⟨"SmellMooringsModel", "three", "([IIIIII)Z"⟩, 35) := ⟨⟨by decide +kernel, by decide +kernel⟩, List.mem_of_getElem? (i := 579) (by decide +kernel), List.mem_of_getElem? (i := 726) (by decide +kernel), List.mem_of_getElem? (i := 727) (by decide +kernel)⟩
theorem lw_p10 : lw_okq (⟨"SmellMooringsModel", "number", "(III)Z"⟩, 35) := ⟨⟨by decide +kernel, by decide +kernel⟩, List.mem_of_getElem? (i := 579) (by decide +kernel), List.mem_of_getElem? (i := 730) (by decide +kernel), List.mem_of_getElem? (i := 731) (by decide +kernel)⟩
theorem lw_p11 : lw_okq (⟨"SmellMooringsModel", "isFigure", "()Z"⟩, 35) := ⟨⟨by decide +kernel, by decide +kernel⟩, List.mem_of_getElem? (i := 579) (by decide +kernel), List.mem_of_getElem? (i := 734) (by decide +kernel), List.mem_of_getElem? (i := 735) (by decide +kernel)⟩
theorem lw_p12 : lw_okq (⟨"SmellMooringsModel", "readsWind", "()Z"⟩, 35) := ⟨⟨by decide +kernel, by decide +kernel⟩, List.mem_of_getElem? (i := 579) (by decide +kernel), List.mem_of_getElem? (i := 738) (by decide +kernel), List.mem_of_getElem? (i := 739) (by decide +kernel)⟩
theorem lw_p13 : lw_okq (⟨"SmellMooringsModel", "isPost", "(I)Z"⟩, 35) := ⟨⟨by decide +kernel, by decide +kernel⟩, List.mem_of_getElem? (i := 579) (by decide +kernel), List.mem_of_getElem? (i := 751) (by decide +kernel), List.mem_of_getElem? (i := 752) (by decide +kernel)⟩
theorem lw_p14 : lw_okq (⟨"SmellMooringsModel", "isOne", "(I)Z"⟩, 35) := ⟨⟨by decide +kernel, by decide +kernel⟩, List.mem_of_getElem? (i := 579) (by decide +kernel), List.mem_of_getElem? (i := 759) (by decide +kernel), List.mem_of_getElem? (i := 760) (by decide +kernel)⟩
theorem lw_p15 : lw_okq (⟨"SmellMooringsModel", "nearest", "(I)I"⟩, 35) := ⟨⟨by decide +kernel, by decide +kernel⟩, List.mem_of_getElem? (i := 579) (by decide +kernel), List.mem_of_getElem? (i := 763) (by decide +kernel), List.mem_of_getElem? (i := 764) (by decide +kernel)⟩
def lw_privs_1 : List (MethodName × Nat) := [(⟨"SmellMoorings", "endsAt", "(III)Z"⟩, 8), (⟨"SmellMoorings", "bitsThatFit", "([IIII)I"⟩, 8), (⟨"SmellMoorings", "spreadAnHour", "(I)V"⟩, 8), (⟨"SmellMoorings", "changeByDraw", "(I)V"⟩, 8), (⟨"SmellMooringsModel", "firstPost", "(III)V"⟩, 35), (⟨"SmellMooringsModel", "setsPost", "(IIII)V"⟩, 35), (⟨"SmellMooringsModel", "firstOne", "(III)V"⟩, 35), (⟨"SmellMooringsModel", "readsItem", "()Z"⟩, 35), (⟨"SmellMooringsModel", "here", "()I"⟩, 35), (⟨"SmellMooringsModel", "three", "([IIIIII)Z"⟩, 35), (⟨"SmellMooringsModel", "number", "(III)Z"⟩, 35), (⟨"SmellMooringsModel", "isFigure", "()Z"⟩, 35), (⟨"SmellMooringsModel", "readsWind", "()Z"⟩, 35), (⟨"SmellMooringsModel", "isPost", "(I)Z"⟩, 35), (⟨"SmellMooringsModel", "isOne", "(I)Z"⟩, 35), (⟨"SmellMooringsModel", "nearest", "(I)I"⟩, 35)]
theorem lw_r1 : ∀ q ∈ lw_privs_1, lw_okq q := List.forall_mem_cons.mpr ⟨lw_p0, List.forall_mem_cons.mpr ⟨lw_p1, List.forall_mem_cons.mpr ⟨lw_p2, List.forall_mem_cons.mpr ⟨lw_p3, List.forall_mem_cons.mpr ⟨lw_p4, List.forall_mem_cons.mpr ⟨lw_p5, List.forall_mem_cons.mpr ⟨lw_p6, List.forall_mem_cons.mpr ⟨lw_p7, List.forall_mem_cons.mpr ⟨lw_p8, List.forall_mem_cons.mpr ⟨lw_p9, List.forall_mem_cons.mpr ⟨lw_p10, List.forall_mem_cons.mpr ⟨lw_p11, List.forall_mem_cons.mpr ⟨lw_p12, List.forall_mem_cons.mpr ⟨lw_p13, List.forall_mem_cons.mpr ⟨lw_p14, List.forall_mem_cons.mpr ⟨lw_p15, fun _ h => absurd h List.not_mem_nil⟩⟩⟩⟩⟩⟩⟩⟩⟩⟩⟩⟩⟩⟩⟩⟩
theorem lw_p16 : lw_okq (⟨"SmellMooringsModel", "farTo", "(I)I"⟩, 35) := ⟨⟨by decide +kernel, by decide +kernel⟩, List.mem_of_getElem? (i := 579) (by decide +kernel), List.mem_of_getElem? (i := 767) (by decide +kernel), List.mem_of_getElem? (i := 768) (by decide +kernel)⟩
theorem lw_p17 : lw_okq (⟨"SmellMooringsModel", "strength", "(I)I"⟩, 35) := ⟨⟨by decide +kernel, by decide +kernel⟩, List.mem_of_getElem? (i := 579) (by decide +kernel), List.mem_of_getElem? (i := 774) (by decide +kernel), List.mem_of_getElem? (i := 775) (by decide +kernel)⟩
theorem lw_p18 : lw_okq (⟨"SmellMooringsModel", "towards", "(I)I"⟩, 35) := ⟨⟨by decide +kernel, by decide +kernel⟩, List.mem_of_getElem? (i := 579) (by decide +kernel), List.mem_of_getElem? (i := 781) (by decide +kernel), List.mem_of_getElem? (i := 782) (by decide +kernel)⟩
theorem lw_p19 : lw_okq (⟨"SmellMooringsModel", "pullBy", "(II)I"⟩, 35) := ⟨⟨by decide +kernel, by decide +kernel⟩, List.mem_of_getElem? (i := 579) (by decide +kernel), List.mem_of_getElem? (i := 789) (by decide +kernel), List.mem_of_getElem? (i := 790) (by decide +kernel)⟩
theorem lw_p20 : lw_okq (⟨"SmellMooringsModel", "goesTo", "()I"⟩, 35) := ⟨⟨by decide +kernel, by decide +kernel⟩, List.mem_of_getElem? (i := 579) (by decide +kernel), List.mem_of_getElem? (i := 793) (by decide +kernel), List.mem_of_getElem? (i := 794) (by decide +kernel)⟩
theorem lw_p21 : lw_okq (⟨"SmellMooringsModel", "notes", "()V"⟩, 35) := ⟨⟨by decide +kernel, by decide +kernel⟩, List.mem_of_getElem? (i := 579) (by decide +kernel), List.mem_of_getElem? (i := 804) (by decide +kernel), List.mem_of_getElem? (i := 805) (by decide +kernel)⟩
theorem lw_p22 : lw_okq (⟨"SmellMooringsModel", "lays", "([II)V"⟩, 35) := ⟨⟨by decide +kernel, by decide +kernel⟩, List.mem_of_getElem? (i := 579) (by decide +kernel), List.mem_of_getElem? (i := 808) (by decide +kernel), List.mem_of_getElem? (i := 809) (by decide +kernel)⟩
theorem lw_p23 : lw_okq (⟨"SmellMooringsModel", "passes", "()Z"⟩, 35) := ⟨⟨by decide +kernel, by decide +kernel⟩, List.mem_of_getElem? (i := 579) (by decide +kernel), List.mem_of_getElem? (i := 812) (by decide +kernel), List.mem_of_getElem? (i := 813) (by decide +kernel)⟩
theorem lw_p24 : lw_okq (⟨"SmellMooringsModel", "left", "()I"⟩, 35) := ⟨⟨by decide +kernel, by decide +kernel⟩, List.mem_of_getElem? (i := 579) (by decide +kernel), List.mem_of_getElem? (i := 832) (by decide +kernel), List.mem_of_getElem? (i := 833) (by decide +kernel)⟩
theorem lw_p25 : lw_okq (⟨"SmellMooringsModel", "takes", "([II)V"⟩, 35) := ⟨⟨by decide +kernel, by decide +kernel⟩, List.mem_of_getElem? (i := 579) (by decide +kernel), List.mem_of_getElem? (i := 840) (by decide +kernel), List.mem_of_getElem? (i := 841) (by decide +kernel)⟩
theorem lw_p26 : lw_okq (⟨"SmellMooringsModel", "puts", "()V"⟩, 35) := ⟨⟨by decide +kernel, by decide +kernel⟩, List.mem_of_getElem? (i := 579) (by decide +kernel), List.mem_of_getElem? (i := 848) (by decide +kernel), List.mem_of_getElem? (i := 849) (by decide +kernel)⟩
theorem lw_p27 : lw_okq (⟨"SmellMooringsModel", "goesOn", "(I)V"⟩, 35) := ⟨⟨by decide +kernel, by decide +kernel⟩, List.mem_of_getElem? (i := 579) (by decide +kernel), List.mem_of_getElem? (i := 852) (by decide +kernel), List.mem_of_getElem? (i := 853) (by decide +kernel)⟩
theorem lw_p28 : lw_okq (⟨"SmellMooringsModel", "puttingBack", "()V"⟩, 35) := ⟨⟨by decide +kernel, by decide +kernel⟩, List.mem_of_getElem? (i := 579) (by decide +kernel), List.mem_of_getElem? (i := 856) (by decide +kernel), List.mem_of_getElem? (i := 857) (by decide +kernel)⟩
theorem lw_p29 : lw_okq (⟨"SmellMooringsModel", "endBy", "(I)I"⟩, 35) := ⟨⟨by decide +kernel, by decide +kernel⟩, List.mem_of_getElem? (i := 579) (by decide +kernel), List.mem_of_getElem? (i := 880) (by decide +kernel), List.mem_of_getElem? (i := 881) (by decide +kernel)⟩
theorem lw_p30 : lw_okq (⟨"SmellMooringsModel", "isSo", "()Z"⟩, 35) := ⟨⟨by decide +kernel, by decide +kernel⟩, List.mem_of_getElem? (i := 579) (by decide +kernel), List.mem_of_getElem? (i := 906) (by decide +kernel), List.mem_of_getElem? (i := 907) (by decide +kernel)⟩
def lw_privs_2 : List (MethodName × Nat) := [(⟨"SmellMooringsModel", "farTo", "(I)I"⟩, 35), (⟨"SmellMooringsModel", "strength", "(I)I"⟩, 35), (⟨"SmellMooringsModel", "towards", "(I)I"⟩, 35), (⟨"SmellMooringsModel", "pullBy", "(II)I"⟩, 35), (⟨"SmellMooringsModel", "goesTo", "()I"⟩, 35), (⟨"SmellMooringsModel", "notes", "()V"⟩, 35), (⟨"SmellMooringsModel", "lays", "([II)V"⟩, 35), (⟨"SmellMooringsModel", "passes", "()Z"⟩, 35), (⟨"SmellMooringsModel", "left", "()I"⟩, 35), (⟨"SmellMooringsModel", "takes", "([II)V"⟩, 35), (⟨"SmellMooringsModel", "puts", "()V"⟩, 35), (⟨"SmellMooringsModel", "goesOn", "(I)V"⟩, 35), (⟨"SmellMooringsModel", "puttingBack", "()V"⟩, 35), (⟨"SmellMooringsModel", "endBy", "(I)I"⟩, 35), (⟨"SmellMooringsModel", "isSo", "()Z"⟩, 35)]
theorem lw_r2 : ∀ q ∈ lw_privs_2, lw_okq q := List.forall_mem_cons.mpr ⟨lw_p16, List.forall_mem_cons.mpr ⟨lw_p17, List.forall_mem_cons.mpr ⟨lw_p18, List.forall_mem_cons.mpr ⟨lw_p19, List.forall_mem_cons.mpr ⟨lw_p20, List.forall_mem_cons.mpr ⟨lw_p21, List.forall_mem_cons.mpr ⟨lw_p22, List.forall_mem_cons.mpr ⟨lw_p23, List.forall_mem_cons.mpr ⟨lw_p24, List.forall_mem_cons.mpr ⟨lw_p25, List.forall_mem_cons.mpr ⟨lw_p26, List.forall_mem_cons.mpr ⟨lw_p27, List.forall_mem_cons.mpr ⟨lw_p28, List.forall_mem_cons.mpr ⟨lw_p29, List.forall_mem_cons.mpr ⟨lw_p30, fun _ h => absurd h List.not_mem_nil⟩⟩⟩⟩⟩⟩⟩⟩⟩⟩⟩⟩⟩⟩⟩
def lw_privs : List (MethodName × Nat) := lw_privs_1 ++ (lw_privs_2)
def lw_tbl : List Cond := k2_sels lw_privs ++ tables_1
theorem lw_privs_ok : ∀ q ∈ lw_privs, lw_okq q := by
  show ∀ q ∈ lw_privs_1 ++ (lw_privs_2), lw_okq q
  exact List.forall_mem_append.mpr ⟨lw_r1, lw_r2⟩
-- ===== end of PART A; then your names; then what follows =====
end
section
/-! ===== BEGIN printed: names, fields, word lists, decode rows ===== -/
def RX0 : String := "SmellMoorings$Field"
def TX0 : u_T := fun k => match k with
  | 0 => ("SmellMoorings$Field", "shipX", "I", false)
  | 1 => ("SmellMoorings$Field", "shipY", "I", false)
  | 2 => ("SmellMoorings$Field", "heavy", "I", false)
  | 3 => ("SmellMoorings$Field", "windTo", "I", false)
  | 4 => ("SmellMoorings$Field", "windForce", "I", false)
  | 5 => ("SmellMoorings$Field", "hour", "I", false)
  | 6 => ("SmellMoorings$Field", "posts", "I", false)
  | 7 => ("SmellMoorings$Field", "sailors", "I", false)
  | 8 => ("SmellMoorings$Field", "pullRight", "I", false)
  | 9 => ("SmellMoorings$Field", "pullDown", "I", false)
  | 10 => ("SmellMoorings$Field", "postX", "[I", true)
  | 11 => ("SmellMoorings$Field", "postY", "[I", true)
  | 12 => ("SmellMoorings$Field", "postSmell", "[I", true)
  | 13 => ("SmellMoorings$Field", "postGone", "[I", true)
  | 14 => ("SmellMoorings$Field", "sailorKind", "[I", true)
  | 15 => ("SmellMoorings$Field", "sailorSmell", "[I", true)
  | _ => ("SmellMoorings$Field", "sailorNose", "[I", true)
def tyX0 : Nat → FieldType := fun k => match k with
  | 0 => .int
  | 1 => .int
  | 2 => .int
  | 3 => .int
  | 4 => .int
  | 5 => .int
  | 6 => .int
  | 7 => .int
  | 8 => .int
  | 9 => .int
  | 10 => .array .int
  | 11 => .array .int
  | 12 => .array .int
  | 13 => .array .int
  | 14 => .array .int
  | 15 => .array .int
  | _ => .array .int
abbrev wsX00 : List Cond := u_ws RX0 TX0 17
theorem nmX0 : ∀ a, a < 17 → ∀ b, b < 17 → a ≠ b → (TX0 a).2.1 ≠ (TX0 b).2.1 := by decide +kernel
theorem tyX0_ok : ∀ k, k < 17 → parseFieldDescriptor (TX0 k).2.2.1 = some (tyX0 k) := by decide +kernel
abbrev cX0_init : ByteArray := prog_2_method_1_code
def yX0_init : MethodName := ⟨RX0, "<init>", "()V"⟩
abbrev cX0_clear : ByteArray := prog_2_method_2_code
def yX0_clear : MethodName := ⟨RX0, "clear", "()V"⟩
abbrev cX0_copyFrom : ByteArray := prog_2_method_3_code
def yX0_copyFrom : MethodName := ⟨RX0, "copyFrom", "(LSmellMoorings$Field;)V"⟩
abbrev cX0_hasPost : ByteArray := prog_2_method_4_code
def yX0_hasPost : MethodName := ⟨RX0, "hasPost", "(I)Z"⟩
abbrev cX0_hasSailor : ByteArray := prog_2_method_5_code
def yX0_hasSailor : MethodName := ⟨RX0, "hasSailor", "(I)Z"⟩
abbrev cX0_isShipAt : ByteArray := prog_2_method_6_code
def yX0_isShipAt : MethodName := ⟨RX0, "isShipAt", "(II)Z"⟩
abbrev cX0_moveShip : ByteArray := prog_2_method_7_code
def yX0_moveShip : MethodName := ⟨RX0, "moveShip", "(II)V"⟩
abbrev cX0_addPost : ByteArray := prog_2_method_8_code
def yX0_addPost : MethodName := ⟨RX0, "addPost", "(III)V"⟩
abbrev cX0_changePost : ByteArray := prog_2_method_9_code
def yX0_changePost : MethodName := ⟨RX0, "changePost", "(IIII)V"⟩
abbrev cX0_addSailor : ByteArray := prog_2_method_10_code
def yX0_addSailor : MethodName := ⟨RX0, "addSailor", "(III)V"⟩
abbrev cX0_standingPosts : ByteArray := prog_2_method_11_code
def yX0_standingPosts : MethodName := ⟨RX0, "standingPosts", "()I"⟩
abbrev cX0_apart : ByteArray := prog_2_method_12_code
def yX0_apart : MethodName := ⟨RX0, "apart", "(I)I"⟩
abbrev cX0_nearestPost : ByteArray := prog_2_method_13_code
def yX0_nearestPost : MethodName := ⟨RX0, "nearestPost", "(I)I"⟩
abbrev cX0_strengthTo : ByteArray := prog_2_method_14_code
def yX0_strengthTo : MethodName := ⟨RX0, "strengthTo", "(II)I"⟩
abbrev cX0_headingTo : ByteArray := prog_2_method_15_code
def yX0_headingTo : MethodName := ⟨RX0, "headingTo", "(II)I"⟩
abbrev cX0_addPull : ByteArray := prog_2_method_16_code
def yX0_addPull : MethodName := ⟨RX0, "addPull", "(II)V"⟩
abbrev cX0_goesTo : ByteArray := prog_2_method_17_code
def yX0_goesTo : MethodName := ⟨RX0, "goesTo", "()I"⟩
abbrev cX0_goHours : ByteArray := prog_2_method_18_code
def yX0_goHours : MethodName := ⟨RX0, "goHours", "(I)I"⟩
abbrev cX0_hoursTo : ByteArray := prog_2_method_19_code
def yX0_hoursTo : MethodName := ⟨RX0, "hoursTo", "(III)I"⟩
def RX1 : String := "SmellMoorings$Pile"
def TX1 : u_T := fun k => match k with
  | 0 => ("SmellMoorings$Pile", "fields", "[LSmellMoorings$Field;", true)
  | 1 => ("SmellMoorings$Pile", "many", "I", false)
  | _ => ("SmellMoorings$Pile", "top", "I", false)
def tyX1 : Nat → FieldType := fun k => match k with
  | 0 => .array (.object "SmellMoorings$Field")
  | 1 => .int
  | _ => .int
abbrev wsX10 : List Cond := u_ws RX1 TX1 3
theorem nmX1 : ∀ a, a < 3 → ∀ b, b < 3 → a ≠ b → (TX1 a).2.1 ≠ (TX1 b).2.1 := by decide +kernel
theorem tyX1_ok : ∀ k, k < 3 → parseFieldDescriptor (TX1 k).2.2.1 = some (tyX1 k) := by decide +kernel
abbrev cX1_init : ByteArray := prog_3_method_1_code
def yX1_init : MethodName := ⟨RX1, "<init>", "(I)V"⟩
abbrev cX1_topField : ByteArray := prog_3_method_2_code
def yX1_topField : MethodName := ⟨RX1, "topField", "()LSmellMoorings$Field;"⟩
abbrev cX1_push : ByteArray := prog_3_method_3_code
def yX1_push : MethodName := ⟨RX1, "push", "(LSmellMoorings$Field;)V"⟩
abbrev cX1_popInto : ByteArray := prog_3_method_4_code
def yX1_popInto : MethodName := ⟨RX1, "popInto", "(LSmellMoorings$Field;)Z"⟩
def RX2 : String := "SmellMoorings$Rows"
def TX2 : u_T := fun k => match k with
  | _ => ("", "", "", false)
def tyX2 : Nat → FieldType := fun k => match k with
  | _ => .int
abbrev wsX20 : List Cond := u_ws RX2 TX2 0
theorem nmX2 : ∀ a, a < 0 → ∀ b, b < 0 → a ≠ b → (TX2 a).2.1 ≠ (TX2 b).2.1 := by decide +kernel
theorem tyX2_ok : ∀ k, k < 0 → parseFieldDescriptor (TX2 k).2.2.1 = some (tyX2 k) := by decide +kernel
abbrev cX2_at : ByteArray := prog_4_method_2_code
def yX2_at : MethodName := ⟨RX2, "at", "([II)I"⟩
abbrev cX2_set : ByteArray := prog_4_method_3_code
def yX2_set : MethodName := ⟨RX2, "set", "([III)V"⟩
abbrev cX2_copy : ByteArray := prog_4_method_4_code
def yX2_copy : MethodName := ⟨RX2, "copy", "([I[I)V"⟩
def RX3 : String := "SmellMoorings$Sightings"
def TX3 : u_T := fun k => match k with
  | 0 => ("SmellMoorings$Sightings", "cellX", "[I", true)
  | 1 => ("SmellMoorings$Sightings", "cellY", "[I", true)
  | 2 => ("SmellMoorings$Sightings", "heading", "[I", true)
  | _ => ("SmellMoorings$Sightings", "many", "I", false)
def tyX3 : Nat → FieldType := fun k => match k with
  | 0 => .array .int
  | 1 => .array .int
  | 2 => .array .int
  | _ => .int
abbrev wsX30 : List Cond := u_ws RX3 TX3 4
theorem nmX3 : ∀ a, a < 4 → ∀ b, b < 4 → a ≠ b → (TX3 a).2.1 ≠ (TX3 b).2.1 := by decide +kernel
theorem tyX3_ok : ∀ k, k < 4 → parseFieldDescriptor (TX3 k).2.2.1 = some (tyX3 k) := by decide +kernel
abbrev cX3_init : ByteArray := prog_5_method_1_code
def yX3_init : MethodName := ⟨RX3, "<init>", "()V"⟩
abbrev cX3_addSighting : ByteArray := prog_5_method_2_code
def yX3_addSighting : MethodName := ⟨RX3, "addSighting", "(III)Z"⟩
abbrev cX3_areSoIn : ByteArray := prog_5_method_3_code
def yX3_areSoIn : MethodName := ⟨RX3, "areSoIn", "(LSmellMoorings$Field;)Z"⟩
def RX4 : String := "SmellMoorings$Text"
def TX4 : u_T := fun k => match k with
  | 0 => ("SmellMoorings$Text", "letters", "[I", true)
  | 1 => ("SmellMoorings$Text", "numbers", "[I", true)
  | 2 => ("SmellMoorings$Text", "length", "I", false)
  | _ => ("SmellMoorings$Text", "place", "I", false)
def tyX4 : Nat → FieldType := fun k => match k with
  | 0 => .array .int
  | 1 => .array .int
  | 2 => .int
  | _ => .int
abbrev wsX40 : List Cond := u_ws RX4 TX4 4
theorem nmX4 : ∀ a, a < 4 → ∀ b, b < 4 → a ≠ b → (TX4 a).2.1 ≠ (TX4 b).2.1 := by decide +kernel
theorem tyX4_ok : ∀ k, k < 4 → parseFieldDescriptor (TX4 k).2.2.1 = some (tyX4 k) := by decide +kernel
abbrev cX4_init : ByteArray := prog_6_method_1_code
def yX4_init : MethodName := ⟨RX4, "<init>", "()V"⟩
abbrev cX4_addLetter : ByteArray := prog_6_method_2_code
def yX4_addLetter : MethodName := ⟨RX4, "addLetter", "(I)Z"⟩
abbrev cX4_readInto : ByteArray := prog_6_method_3_code
def yX4_readInto : MethodName := ⟨RX4, "readInto", "(LSmellMoorings$Field;)I"⟩
abbrev cX4_readItem : ByteArray := prog_6_method_4_code
def yX4_readItem : MethodName := ⟨RX4, "readItem", "(LSmellMoorings$Field;)Z"⟩
abbrev cX4_readNumber : ByteArray := prog_6_method_5_code
def yX4_readNumber : MethodName := ⟨RX4, "readNumber", "()I"⟩
abbrev cX4_letterHere : ByteArray := prog_6_method_6_code
def yX4_letterHere : MethodName := ⟨RX4, "letterHere", "()I"⟩
abbrev cX4_tellShip : ByteArray := prog_6_method_7_code
def yX4_tellShip : MethodName := ⟨RX4, "tellShip", "(LSmellMoorings$Field;III)Z"⟩
abbrev cX4_tellWind : ByteArray := prog_6_method_8_code
def yX4_tellWind : MethodName := ⟨RX4, "tellWind", "(LSmellMoorings$Field;II)Z"⟩
abbrev cX4_tellPost : ByteArray := prog_6_method_9_code
def yX4_tellPost : MethodName := ⟨RX4, "tellPost", "(LSmellMoorings$Field;III)Z"⟩
abbrev cX4_tellSailor : ByteArray := prog_6_method_10_code
def yX4_tellSailor : MethodName := ⟨RX4, "tellSailor", "(LSmellMoorings$Field;III)Z"⟩
def RX5 : String := "SmellMoorings"
def TX5 : u_T := fun k => match k with
  | 0 => ("SmellMoorings", "text", "LSmellMoorings$Text;", true)
  | 1 => ("SmellMoorings", "now", "LSmellMoorings$Field;", true)
  | 2 => ("SmellMoorings", "trial", "LSmellMoorings$Field;", true)
  | 3 => ("SmellMoorings", "sightings", "LSmellMoorings$Sightings;", true)
  | 4 => ("SmellMoorings", "undoable", "LSmellMoorings$Pile;", true)
  | 5 => ("SmellMoorings", "kept", "LSmellMoorings$Pile;", true)
  | 6 => ("SmellMoorings", "chance", "[I", true)
  | _ => ("SmellMoorings", "chanceNext", "[I", true)
def tyX5 : Nat → FieldType := fun k => match k with
  | 0 => .object "SmellMoorings$Text"
  | 1 => .object "SmellMoorings$Field"
  | 2 => .object "SmellMoorings$Field"
  | 3 => .object "SmellMoorings$Sightings"
  | 4 => .object "SmellMoorings$Pile"
  | 5 => .object "SmellMoorings$Pile"
  | 6 => .array .int
  | _ => .array .int
abbrev wsX50 : List Cond := u_ws RX5 TX5 8
theorem nmX5 : ∀ a, a < 8 → ∀ b, b < 8 → a ≠ b → (TX5 a).2.1 ≠ (TX5 b).2.1 := by decide +kernel
theorem tyX5_ok : ∀ k, k < 8 → parseFieldDescriptor (TX5 k).2.2.1 = some (tyX5 k) := by decide +kernel
abbrev cX5_init : ByteArray := prog_1_method_1_code
def yX5_init : MethodName := ⟨RX5, "<init>", "()V"⟩
abbrev cX5_write : ByteArray := prog_1_method_2_code
def yX5_write : MethodName := ⟨RX5, "write", "(I)I"⟩
abbrev cX5_wipe : ByteArray := prog_1_method_3_code
def yX5_wipe : MethodName := ⟨RX5, "wipe", "()I"⟩
abbrev cX5_fault : ByteArray := prog_1_method_4_code
def yX5_fault : MethodName := ⟨RX5, "fault", "()I"⟩
abbrev cX5_lay : ByteArray := prog_1_method_5_code
def yX5_lay : MethodName := ⟨RX5, "lay", "()I"⟩
abbrev cX5_post : ByteArray := prog_1_method_6_code
def yX5_post : MethodName := ⟨RX5, "post", "(II)I"⟩
abbrev cX5_crew : ByteArray := prog_1_method_7_code
def yX5_crew : MethodName := ⟨RX5, "crew", "(II)I"⟩
abbrev cX5_pull : ByteArray := prog_1_method_8_code
def yX5_pull : MethodName := ⟨RX5, "pull", "(I)I"⟩
abbrev cX5_pass : ByteArray := prog_1_method_9_code
def yX5_pass : MethodName := ⟨RX5, "pass", "(I)I"⟩
abbrev cX5_wind : ByteArray := prog_1_method_10_code
def yX5_wind : MethodName := ⟨RX5, "wind", "(II)I"⟩
abbrev cX5_put : ByteArray := prog_1_method_11_code
def yX5_put : MethodName := ⟨RX5, "put", "(III)I"⟩
abbrev cX5_smell : ByteArray := prog_1_method_12_code
def yX5_smell : MethodName := ⟨RX5, "smell", "(II)I"⟩
abbrev cX5_take : ByteArray := prog_1_method_13_code
def yX5_take : MethodName := ⟨RX5, "take", "(I)I"⟩
abbrev cX5_undo : ByteArray := prog_1_method_14_code
def yX5_undo : MethodName := ⟨RX5, "undo", "()I"⟩
abbrev cX5_behind : ByteArray := prog_1_method_15_code
def yX5_behind : MethodName := ⟨RX5, "behind", "(II)I"⟩
abbrev cX5_stands : ByteArray := prog_1_method_16_code
def yX5_stands : MethodName := ⟨RX5, "stands", "()I"⟩
abbrev cX5_gale : ByteArray := prog_1_method_17_code
def yX5_gale : MethodName := ⟨RX5, "gale", "(I)I"⟩
abbrev cX5_hold : ByteArray := prog_1_method_18_code
def yX5_hold : MethodName := ⟨RX5, "hold", "()I"⟩
abbrev cX5_brings : ByteArray := prog_1_method_19_code
def yX5_brings : MethodName := ⟨RX5, "brings", "(III)I"⟩
abbrev cX5_keeps : ByteArray := prog_1_method_20_code
def yX5_keeps : MethodName := ⟨RX5, "keeps", "(I)I"⟩
abbrev cX5_instead : ByteArray := prog_1_method_21_code
def yX5_instead : MethodName := ⟨RX5, "instead", "()I"⟩
abbrev cX5_seen : ByteArray := prog_1_method_22_code
def yX5_seen : MethodName := ⟨RX5, "seen", "(III)I"⟩
abbrev cX5_forget : ByteArray := prog_1_method_23_code
def yX5_forget : MethodName := ⟨RX5, "forget", "()I"⟩
abbrev cX5_may : ByteArray := prog_1_method_24_code
def yX5_may : MethodName := ⟨RX5, "may", "(II)I"⟩
abbrev cX5_stowaway : ByteArray := prog_1_method_25_code
def yX5_stowaway : MethodName := ⟨RX5, "stowaway", "(I)I"⟩
abbrev cX5_likely : ByteArray := prog_1_method_26_code
def yX5_likely : MethodName := ⟨RX5, "likely", "(III)I"⟩
abbrev cX5_voyage : ByteArray := prog_1_method_27_code
def yX5_voyage : MethodName := ⟨RX5, "voyage", "(III)I"⟩
abbrev cX5_keep : ByteArray := prog_1_method_28_code
def yX5_keep : MethodName := ⟨RX5, "keep", "()I"⟩
abbrev cX5_back : ByteArray := prog_1_method_29_code
def yX5_back : MethodName := ⟨RX5, "back", "()I"⟩
abbrev cX5_count : ByteArray := prog_1_method_30_code
def yX5_count : MethodName := ⟨RX5, "count", "(I)I"⟩
abbrev cX5_within : ByteArray := prog_1_method_31_code
def yX5_within : MethodName := ⟨RX5, "within", "(III)Z"⟩
abbrev cX5_isCell : ByteArray := prog_1_method_32_code
def yX5_isCell : MethodName := ⟨RX5, "isCell", "(II)Z"⟩
abbrev cX5_cellOf : ByteArray := prog_1_method_33_code
def yX5_cellOf : MethodName := ⟨RX5, "cellOf", "(II)I"⟩
abbrev cX5_nameOf : ByteArray := prog_1_method_34_code
def yX5_nameOf : MethodName := ⟨RX5, "nameOf", "(III)I"⟩
abbrev cX5_endsAt : ByteArray := prog_1_method_35_code
def yX5_endsAt : MethodName := ⟨RX5, "endsAt", "(III)Z"⟩
abbrev cX5_bitsThatFit : ByteArray := prog_1_method_36_code
def yX5_bitsThatFit : MethodName := ⟨RX5, "bitsThatFit", "([IIII)I"⟩
abbrev cX5_spreadAnHour : ByteArray := prog_1_method_37_code
def yX5_spreadAnHour : MethodName := ⟨RX5, "spreadAnHour", "(I)V"⟩
abbrev cX5_drawOf : ByteArray := prog_1_method_38_code
def yX5_drawOf : MethodName := ⟨RX5, "drawOf", "(II)I"⟩
abbrev cX5_changeByDraw : ByteArray := prog_1_method_39_code
def yX5_changeByDraw : MethodName := ⟨RX5, "changeByDraw", "(I)V"⟩
def RX6 : String := "SmellMooringsModel"
def TX6 : u_T := fun k => match k with
  | 0 => ("SmellMooringsModel", "postMany", "I", false)
  | 1 => ("SmellMooringsModel", "crewMany", "I", false)
  | 2 => ("SmellMooringsModel", "heavy", "I", false)
  | 3 => ("SmellMooringsModel", "kinds", "[I", true)
  | 4 => ("SmellMooringsModel", "smells", "[I", true)
  | 5 => ("SmellMooringsModel", "noses", "[I", true)
  | 6 => ("SmellMooringsModel", "hour", "I", false)
  | 7 => ("SmellMooringsModel", "shipX", "I", false)
  | 8 => ("SmellMooringsModel", "shipY", "I", false)
  | 9 => ("SmellMooringsModel", "windTo", "I", false)
  | 10 => ("SmellMooringsModel", "windForce", "I", false)
  | 11 => ("SmellMooringsModel", "postX", "[I", true)
  | 12 => ("SmellMooringsModel", "postY", "[I", true)
  | 13 => ("SmellMooringsModel", "postSmell", "[I", true)
  | 14 => ("SmellMooringsModel", "away", "[I", true)
  | 15 => ("SmellMooringsModel", "seenMany", "I", false)
  | 16 => ("SmellMooringsModel", "seenX", "[I", true)
  | 17 => ("SmellMooringsModel", "seenY", "[I", true)
  | 18 => ("SmellMooringsModel", "seenTo", "[I", true)
  | 19 => ("SmellMooringsModel", "text", "[I", true)
  | 20 => ("SmellMooringsModel", "size", "I", false)
  | 21 => ("SmellMooringsModel", "readAt", "I", false)
  | 22 => ("SmellMooringsModel", "readPosts", "I", false)
  | 23 => ("SmellMooringsModel", "readCrew", "I", false)
  | 24 => ("SmellMooringsModel", "readHead", "[I", true)
  | 25 => ("SmellMooringsModel", "readPost", "[I", true)
  | 26 => ("SmellMooringsModel", "readOne", "[I", true)
  | 27 => ("SmellMooringsModel", "readNumber", "I", false)
  | 28 => ("SmellMooringsModel", "tried", "I", false)
  | 29 => ("SmellMooringsModel", "more", "I", false)
  | 30 => ("SmellMooringsModel", "ahead", "[I", true)
  | 31 => ("SmellMooringsModel", "undoMany", "I", false)
  | 32 => ("SmellMooringsModel", "aside", "[I", true)
  | 33 => ("SmellMooringsModel", "kept", "[I", true)
  | _ => ("SmellMooringsModel", "keptMany", "I", false)
def tyX6 : Nat → FieldType := fun k => match k with
  | 0 => .int
  | 1 => .int
  | 2 => .int
  | 3 => .array .int
  | 4 => .array .int
  | 5 => .array .int
  | 6 => .int
  | 7 => .int
  | 8 => .int
  | 9 => .int
  | 10 => .int
  | 11 => .array .int
  | 12 => .array .int
  | 13 => .array .int
  | 14 => .array .int
  | 15 => .int
  | 16 => .array .int
  | 17 => .array .int
  | 18 => .array .int
  | 19 => .array .int
  | 20 => .int
  | 21 => .int
  | 22 => .int
  | 23 => .int
  | 24 => .array .int
  | 25 => .array .int
  | 26 => .array .int
  | 27 => .int
  | 28 => .int
  | 29 => .int
  | 30 => .array .int
  | 31 => .int
  | 32 => .array .int
  | 33 => .array .int
  | _ => .int
abbrev wsX60 : List Cond := u_ws RX6 TX6 35
theorem nmX6 : ∀ a, a < 35 → ∀ b, b < 35 → a ≠ b → (TX6 a).2.1 ≠ (TX6 b).2.1 := by decide +kernel
theorem tyX6_ok : ∀ k, k < 35 → parseFieldDescriptor (TX6 k).2.2.1 = some (tyX6 k) := by decide +kernel
abbrev cX6_in : ByteArray := prog_8_method_1_code
def yX6_in : MethodName := ⟨RX6, "in", "(III)Z"⟩
abbrev cX6_has : ByteArray := prog_8_method_2_code
def yX6_has : MethodName := ⟨RX6, "has", "(II)Z"⟩
abbrev cX6_far : ByteArray := prog_8_method_3_code
def yX6_far : MethodName := ⟨RX6, "far", "(I)I"⟩
abbrev cX6_bits : ByteArray := prog_8_method_4_code
def yX6_bits : MethodName := ⟨RX6, "bits", "(I)I"⟩
abbrev cX6_init : ByteArray := prog_8_method_5_code
def yX6_init : MethodName := ⟨RX6, "<init>", "()V"⟩
abbrev cX6_firstPost : ByteArray := prog_8_method_6_code
def yX6_firstPost : MethodName := ⟨RX6, "firstPost", "(III)V"⟩
abbrev cX6_setsPost : ByteArray := prog_8_method_7_code
def yX6_setsPost : MethodName := ⟨RX6, "setsPost", "(IIII)V"⟩
abbrev cX6_firstOne : ByteArray := prog_8_method_8_code
def yX6_firstOne : MethodName := ⟨RX6, "firstOne", "(III)V"⟩
abbrev cX6_isPost : ByteArray := prog_8_method_9_code
def yX6_isPost : MethodName := ⟨RX6, "isPost", "(I)Z"⟩
abbrev cX6_isOne : ByteArray := prog_8_method_10_code
def yX6_isOne : MethodName := ⟨RX6, "isOne", "(I)Z"⟩
abbrev cX6_isCell : ByteArray := prog_8_method_11_code
def yX6_isCell : MethodName := ⟨RX6, "isCell", "(II)Z"⟩
abbrev cX6_write : ByteArray := prog_8_method_12_code
def yX6_write : MethodName := ⟨RX6, "write", "(I)I"⟩
abbrev cX6_wipe : ByteArray := prog_8_method_13_code
def yX6_wipe : MethodName := ⟨RX6, "wipe", "()I"⟩
abbrev cX6_here : ByteArray := prog_8_method_14_code
def yX6_here : MethodName := ⟨RX6, "here", "()I"⟩
abbrev cX6_isFigure : ByteArray := prog_8_method_15_code
def yX6_isFigure : MethodName := ⟨RX6, "isFigure", "()Z"⟩
abbrev cX6_number : ByteArray := prog_8_method_16_code
def yX6_number : MethodName := ⟨RX6, "number", "(III)Z"⟩
abbrev cX6_three : ByteArray := prog_8_method_17_code
def yX6_three : MethodName := ⟨RX6, "three", "([IIIIII)Z"⟩
abbrev cX6_readsWind : ByteArray := prog_8_method_18_code
def yX6_readsWind : MethodName := ⟨RX6, "readsWind", "()Z"⟩
abbrev cX6_readsItem : ByteArray := prog_8_method_19_code
def yX6_readsItem : MethodName := ⟨RX6, "readsItem", "()Z"⟩
abbrev cX6_fault : ByteArray := prog_8_method_20_code
def yX6_fault : MethodName := ⟨RX6, "fault", "()I"⟩
abbrev cX6_lay : ByteArray := prog_8_method_21_code
def yX6_lay : MethodName := ⟨RX6, "lay", "()I"⟩
abbrev cX6_farTo : ByteArray := prog_8_method_22_code
def yX6_farTo : MethodName := ⟨RX6, "farTo", "(I)I"⟩
abbrev cX6_nearest : ByteArray := prog_8_method_23_code
def yX6_nearest : MethodName := ⟨RX6, "nearest", "(I)I"⟩
abbrev cX6_strengthBy : ByteArray := prog_8_method_24_code
def yX6_strengthBy : MethodName := ⟨RX6, "strengthBy", "(III)I"⟩
abbrev cX6_strength : ByteArray := prog_8_method_25_code
def yX6_strength : MethodName := ⟨RX6, "strength", "(I)I"⟩
abbrev cX6_towards : ByteArray := prog_8_method_26_code
def yX6_towards : MethodName := ⟨RX6, "towards", "(I)I"⟩
abbrev cX6_pullBy : ByteArray := prog_8_method_27_code
def yX6_pullBy : MethodName := ⟨RX6, "pullBy", "(II)I"⟩
abbrev cX6_goesTo : ByteArray := prog_8_method_28_code
def yX6_goesTo : MethodName := ⟨RX6, "goesTo", "()I"⟩
abbrev cX6_passes : ByteArray := prog_8_method_29_code
def yX6_passes : MethodName := ⟨RX6, "passes", "()Z"⟩
abbrev cX6_goesOn : ByteArray := prog_8_method_30_code
def yX6_goesOn : MethodName := ⟨RX6, "goesOn", "(I)V"⟩
abbrev cX6_post : ByteArray := prog_8_method_31_code
def yX6_post : MethodName := ⟨RX6, "post", "(II)I"⟩
abbrev cX6_crew : ByteArray := prog_8_method_32_code
def yX6_crew : MethodName := ⟨RX6, "crew", "(II)I"⟩
abbrev cX6_pull : ByteArray := prog_8_method_33_code
def yX6_pull : MethodName := ⟨RX6, "pull", "(I)I"⟩
abbrev cX6_lays : ByteArray := prog_8_method_34_code
def yX6_lays : MethodName := ⟨RX6, "lays", "([II)V"⟩
abbrev cX6_takes : ByteArray := prog_8_method_35_code
def yX6_takes : MethodName := ⟨RX6, "takes", "([II)V"⟩
abbrev cX6_notes : ByteArray := prog_8_method_36_code
def yX6_notes : MethodName := ⟨RX6, "notes", "()V"⟩
abbrev cX6_pass : ByteArray := prog_8_method_37_code
def yX6_pass : MethodName := ⟨RX6, "pass", "(I)I"⟩
abbrev cX6_wind : ByteArray := prog_8_method_38_code
def yX6_wind : MethodName := ⟨RX6, "wind", "(II)I"⟩
abbrev cX6_put : ByteArray := prog_8_method_39_code
def yX6_put : MethodName := ⟨RX6, "put", "(III)I"⟩
abbrev cX6_smell : ByteArray := prog_8_method_40_code
def yX6_smell : MethodName := ⟨RX6, "smell", "(II)I"⟩
abbrev cX6_left : ByteArray := prog_8_method_41_code
def yX6_left : MethodName := ⟨RX6, "left", "()I"⟩
abbrev cX6_take : ByteArray := prog_8_method_42_code
def yX6_take : MethodName := ⟨RX6, "take", "(I)I"⟩
abbrev cX6_undo : ByteArray := prog_8_method_43_code
def yX6_undo : MethodName := ⟨RX6, "undo", "()I"⟩
abbrev cX6_puts : ByteArray := prog_8_method_44_code
def yX6_puts : MethodName := ⟨RX6, "puts", "()V"⟩
abbrev cX6_puttingBack : ByteArray := prog_8_method_45_code
def yX6_puttingBack : MethodName := ⟨RX6, "puttingBack", "()V"⟩
abbrev cX6_behind : ByteArray := prog_8_method_46_code
def yX6_behind : MethodName := ⟨RX6, "behind", "(II)I"⟩
abbrev cX6_stands : ByteArray := prog_8_method_47_code
def yX6_stands : MethodName := ⟨RX6, "stands", "()I"⟩
abbrev cX6_gale : ByteArray := prog_8_method_48_code
def yX6_gale : MethodName := ⟨RX6, "gale", "(I)I"⟩
abbrev cX6_hold : ByteArray := prog_8_method_49_code
def yX6_hold : MethodName := ⟨RX6, "hold", "()I"⟩
abbrev cX6_brings : ByteArray := prog_8_method_50_code
def yX6_brings : MethodName := ⟨RX6, "brings", "(III)I"⟩
abbrev cX6_endBy : ByteArray := prog_8_method_51_code
def yX6_endBy : MethodName := ⟨RX6, "endBy", "(I)I"⟩
abbrev cX6_keeps : ByteArray := prog_8_method_52_code
def yX6_keeps : MethodName := ⟨RX6, "keeps", "(I)I"⟩
abbrev cX6_instead : ByteArray := prog_8_method_53_code
def yX6_instead : MethodName := ⟨RX6, "instead", "()I"⟩
abbrev cX6_seen : ByteArray := prog_8_method_54_code
def yX6_seen : MethodName := ⟨RX6, "seen", "(III)I"⟩
abbrev cX6_forget : ByteArray := prog_8_method_55_code
def yX6_forget : MethodName := ⟨RX6, "forget", "()I"⟩
abbrev cX6_isSo : ByteArray := prog_8_method_56_code
def yX6_isSo : MethodName := ⟨RX6, "isSo", "()Z"⟩
abbrev cX6_may : ByteArray := prog_8_method_57_code
def yX6_may : MethodName := ⟨RX6, "may", "(II)I"⟩
abbrev cX6_stowaway : ByteArray := prog_8_method_58_code
def yX6_stowaway : MethodName := ⟨RX6, "stowaway", "(I)I"⟩
abbrev cX6_common : ByteArray := prog_8_method_59_code
def yX6_common : MethodName := ⟨RX6, "common", "(JJ)J"⟩
abbrev cX6_likely : ByteArray := prog_8_method_60_code
def yX6_likely : MethodName := ⟨RX6, "likely", "(III)I"⟩
abbrev cX6_voyage : ByteArray := prog_8_method_61_code
def yX6_voyage : MethodName := ⟨RX6, "voyage", "(III)I"⟩
abbrev cX6_keep : ByteArray := prog_8_method_62_code
def yX6_keep : MethodName := ⟨RX6, "keep", "()I"⟩
abbrev cX6_back : ByteArray := prog_8_method_63_code
def yX6_back : MethodName := ⟨RX6, "back", "()I"⟩
abbrev cX6_count : ByteArray := prog_8_method_64_code
def yX6_count : MethodName := ⟨RX6, "count", "(I)I"⟩
def RJx145de : String := "java/io/Serializable"
def TJx145de : u_T := fun k => match k with
  | _ => ("", "", "", false)
def tyJx145de : Nat → FieldType := fun k => match k with
  | _ => .int
abbrev wsJx145de0 : List Cond := u_ws RJx145de TJx145de 0
theorem nmJx145de : ∀ a, a < 0 → ∀ b, b < 0 → a ≠ b → (TJx145de a).2.1 ≠ (TJx145de b).2.1 := by decide +kernel
theorem tyJx145de_ok : ∀ k, k < 0 → parseFieldDescriptor (TJx145de k).2.2.1 = some (tyJx145de k) := by decide +kernel
def RJx9f9b0 : String := "java/lang/CharSequence"
def TJx9f9b0 : u_T := fun k => match k with
  | _ => ("", "", "", false)
def tyJx9f9b0 : Nat → FieldType := fun k => match k with
  | _ => .int
abbrev wsJx9f9b00 : List Cond := u_ws RJx9f9b0 TJx9f9b0 0
theorem nmJx9f9b0 : ∀ a, a < 0 → ∀ b, b < 0 → a ≠ b → (TJx9f9b0 a).2.1 ≠ (TJx9f9b0 b).2.1 := by decide +kernel
theorem tyJx9f9b0_ok : ∀ k, k < 0 → parseFieldDescriptor (TJx9f9b0 k).2.2.1 = some (tyJx9f9b0 k) := by decide +kernel
def RJxb160c : String := "java/lang/Comparable"
def TJxb160c : u_T := fun k => match k with
  | _ => ("", "", "", false)
def tyJxb160c : Nat → FieldType := fun k => match k with
  | _ => .int
abbrev wsJxb160c0 : List Cond := u_ws RJxb160c TJxb160c 0
theorem nmJxb160c : ∀ a, a < 0 → ∀ b, b < 0 → a ≠ b → (TJxb160c a).2.1 ≠ (TJxb160c b).2.1 := by decide +kernel
theorem tyJxb160c_ok : ∀ k, k < 0 → parseFieldDescriptor (TJxb160c k).2.2.1 = some (tyJxb160c k) := by decide +kernel
def RJ6 : String := "java/lang/Integer"
def TJ6 : u_T := fun k => match k with
  | _ => ("", "", "", false)
def tyJ6 : Nat → FieldType := fun k => match k with
  | _ => .int
abbrev wsJ60 : List Cond := u_ws RJ6 TJ6 0
theorem nmJ6 : ∀ a, a < 0 → ∀ b, b < 0 → a ≠ b → (TJ6 a).2.1 ≠ (TJ6 b).2.1 := by decide +kernel
theorem tyJ6_ok : ∀ k, k < 0 → parseFieldDescriptor (TJ6 k).2.2.1 = some (tyJ6 k) := by decide +kernel
abbrev cJ6_bitCount_0f7a4 : ByteArray := prog_9_method_49_code
def yJ6_bitCount_0f7a4 : MethodName := ⟨RJ6, "bitCount", "(I)I"⟩
def RJ9 : String := "java/lang/Math"
def TJ9 : u_T := fun k => match k with
  | _ => ("", "", "", false)
def tyJ9 : Nat → FieldType := fun k => match k with
  | _ => .int
abbrev wsJ90 : List Cond := u_ws RJ9 TJ9 0
theorem nmJ9 : ∀ a, a < 0 → ∀ b, b < 0 → a ≠ b → (TJ9 a).2.1 ≠ (TJ9 b).2.1 := by decide +kernel
theorem tyJ9_ok : ∀ k, k < 0 → parseFieldDescriptor (TJ9 k).2.2.1 = some (tyJ9 k) := by decide +kernel
abbrev cJ9_abs_0f7a4 : ByteArray := prog_10_method_59_code
def yJ9_abs_0f7a4 : MethodName := ⟨RJ9, "abs", "(I)I"⟩
abbrev cJ9_max_7cf53 : ByteArray := prog_10_method_65_code
def yJ9_max_7cf53 : MethodName := ⟨RJ9, "max", "(II)I"⟩
abbrev cJ9_min_7cf53 : ByteArray := prog_10_method_69_code
def yJ9_min_7cf53 : MethodName := ⟨RJ9, "min", "(II)I"⟩
def RJ0 : String := "java/lang/String"
def TJ0 : u_T := fun k => match k with
  | _ => ("", "", "", false)
def tyJ0 : Nat → FieldType := fun k => match k with
  | _ => .int
abbrev wsJ00 : List Cond := u_ws RJ0 TJ0 0
theorem nmJ0 : ∀ a, a < 0 → ∀ b, b < 0 → a ≠ b → (TJ0 a).2.1 ≠ (TJ0 b).2.1 := by decide +kernel
theorem tyJ0_ok : ∀ k, k < 0 → parseFieldDescriptor (TJ0 k).2.2.1 = some (tyJ0 k) := by decide +kernel
abbrev cJ0_length_8abf5 : ByteArray := prog_11_method_54_code
def yJ0_length_8abf5 : MethodName := ⟨RJ0, "length", "()I"⟩
abbrev cJ0_charAt_5068e : ByteArray := prog_11_method_56_code
def yJ0_charAt_5068e : MethodName := ⟨RJ0, "charAt", "(I)C"⟩
abbrev cJ0_coder_7d493 : ByteArray := prog_11_method_152_code
def yJ0_coder_7d493 : MethodName := ⟨RJ0, "coder", "()B"⟩
abbrev cJ0_isLatin1_aae02 : ByteArray := prog_11_method_154_code
def yJ0_isLatin1_aae02 : MethodName := ⟨RJ0, "isLatin1", "()Z"⟩
abbrev cJ0_checkIndex_df160 : ByteArray := prog_11_method_155_code
def yJ0_checkIndex_df160 : MethodName := ⟨RJ0, "checkIndex", "(II)V"⟩
def RJ1 : String := "java/lang/StringLatin1"
def TJ1 : u_T := fun k => match k with
  | _ => ("", "", "", false)
def tyJ1 : Nat → FieldType := fun k => match k with
  | _ => .int
abbrev wsJ10 : List Cond := u_ws RJ1 TJ1 0
theorem nmJ1 : ∀ a, a < 0 → ∀ b, b < 0 → a ≠ b → (TJ1 a).2.1 ≠ (TJ1 b).2.1 := by decide +kernel
theorem tyJ1_ok : ∀ k, k < 0 → parseFieldDescriptor (TJ1 k).2.2.1 = some (tyJ1 k) := by decide +kernel
abbrev cJ1_charAt_3b067 : ByteArray := prog_12_method_2_code
def yJ1_charAt_3b067 : MethodName := ⟨RJ1, "charAt", "([BI)C"⟩
def RJ2 : String := "java/lang/StringUTF16"
def TJ2 : u_T := fun k => match k with
  | _ => ("", "", "", false)
def tyJ2 : Nat → FieldType := fun k => match k with
  | _ => .int
abbrev wsJ20 : List Cond := u_ws RJ2 TJ2 0
theorem nmJ2 : ∀ a, a < 0 → ∀ b, b < 0 → a ≠ b → (TJ2 a).2.1 ≠ (TJ2 b).2.1 := by decide +kernel
theorem tyJ2_ok : ∀ k, k < 0 → parseFieldDescriptor (TJ2 k).2.2.1 = some (tyJ2 k) := by decide +kernel
abbrev cJ2_getChar_3b067 : ByteArray := prog_13_method_5_code
def yJ2_getChar_3b067 : MethodName := ⟨RJ2, "getChar", "([BI)C"⟩
abbrev cJ2_length_9d52b : ByteArray := prog_13_method_6_code
def yJ2_length_9d52b : MethodName := ⟨RJ2, "length", "([B)I"⟩
abbrev cJ2_charAt_3b067 : ByteArray := prog_13_method_83_code
def yJ2_charAt_3b067 : MethodName := ⟨RJ2, "charAt", "([BI)C"⟩
abbrev cJ2_checkIndex_2214a : ByteArray := prog_13_method_91_code
def yJ2_checkIndex_2214a : MethodName := ⟨RJ2, "checkIndex", "(I[B)V"⟩
def RJ10 : String := "java/lang/System"
def TJ10 : u_T := fun k => match k with
  | _ => ("", "", "", false)
def tyJ10 : Nat → FieldType := fun k => match k with
  | _ => .int
abbrev wsJ100 : List Cond := u_ws RJ10 TJ10 0
theorem nmJ10 : ∀ a, a < 0 → ∀ b, b < 0 → a ≠ b → (TJ10 a).2.1 ≠ (TJ10 b).2.1 := by decide +kernel
theorem tyJ10_ok : ∀ k, k < 0 → parseFieldDescriptor (TJ10 k).2.2.1 = some (tyJ10 k) := by decide +kernel
def RJxfd54e : String := "java/lang/constant/Constable"
def TJxfd54e : u_T := fun k => match k with
  | _ => ("", "", "", false)
def tyJxfd54e : Nat → FieldType := fun k => match k with
  | _ => .int
abbrev wsJxfd54e0 : List Cond := u_ws RJxfd54e TJxfd54e 0
theorem nmJxfd54e : ∀ a, a < 0 → ∀ b, b < 0 → a ≠ b → (TJxfd54e a).2.1 ≠ (TJxfd54e b).2.1 := by decide +kernel
theorem tyJxfd54e_ok : ∀ k, k < 0 → parseFieldDescriptor (TJxfd54e k).2.2.1 = some (tyJxfd54e k) := by decide +kernel
def RJx3cf43 : String := "java/lang/constant/ConstantDesc"
def TJx3cf43 : u_T := fun k => match k with
  | _ => ("", "", "", false)
def tyJx3cf43 : Nat → FieldType := fun k => match k with
  | _ => .int
abbrev wsJx3cf430 : List Cond := u_ws RJx3cf43 TJx3cf43 0
theorem nmJx3cf43 : ∀ a, a < 0 → ∀ b, b < 0 → a ≠ b → (TJx3cf43 a).2.1 ≠ (TJx3cf43 b).2.1 := by decide +kernel
theorem tyJx3cf43_ok : ∀ k, k < 0 → parseFieldDescriptor (TJx3cf43 k).2.2.1 = some (tyJx3cf43 k) := by decide +kernel
def RJ7 : String := "java/util/Arrays"
def TJ7 : u_T := fun k => match k with
  | _ => ("", "", "", false)
def tyJ7 : Nat → FieldType := fun k => match k with
  | _ => .int
abbrev wsJ70 : List Cond := u_ws RJ7 TJ7 0
theorem nmJ7 : ∀ a, a < 0 → ∀ b, b < 0 → a ≠ b → (TJ7 a).2.1 ≠ (TJ7 b).2.1 := by decide +kernel
theorem tyJ7_ok : ∀ k, k < 0 → parseFieldDescriptor (TJ7 k).2.2.1 = some (tyJ7 k) := by decide +kernel
abbrev cJ7_fill_53178 : ByteArray := prog_15_method_103_code
def yJ7_fill_53178 : MethodName := ⟨RJ7, "fill", "([II)V"⟩
def RJ3 : String := "jdk/internal/util/Preconditions"
def TJ3 : u_T := fun k => match k with
  | _ => ("", "", "", false)
def tyJ3 : Nat → FieldType := fun k => match k with
  | _ => .int
abbrev wsJ30 : List Cond := u_ws RJ3 TJ3 0
theorem nmJ3 : ∀ a, a < 0 → ∀ b, b < 0 → a ≠ b → (TJ3 a).2.1 ≠ (TJ3 b).2.1 := by decide +kernel
theorem tyJ3_ok : ∀ k, k < 0 → parseFieldDescriptor (TJ3 k).2.2.1 = some (tyJ3 k) := by decide +kernel
abbrev cJ3_checkIndex_8e157 : ByteArray := prog_16_method_11_code
def yJ3_checkIndex_8e157 : MethodName := ⟨RJ3, "checkIndex", "(IILjava/util/function/BiFunction;)I"⟩
def RL : String := "SmellMooringsLaw"
abbrev cL_law : ByteArray := code
def yL_law : MethodName := ⟨RL, "law", "([I)Z"⟩
end
section
theorem dX0_init_0 : decode cX0_init 0 = .ok (.aload_n 0, 1) := by decide +kernel
theorem dX0_init_1 : decode cX0_init 1 = .ok (.invokespecial 3, 3) := by decide +kernel
theorem dX0_init_4 : decode cX0_init 4 = .ok (.aload_n 0, 1) := by decide +kernel
theorem dX0_init_5 : decode cX0_init 5 = .ok (.bipush 6, 2) := by decide +kernel
theorem dX0_init_7 : decode cX0_init 7 = .ok (.newarray .int, 2) := by decide +kernel
theorem dX0_init_9 : decode cX0_init 9 = .ok (.putfield 9, 3) := by decide +kernel
theorem dX0_init_12 : decode cX0_init 12 = .ok (.aload_n 0, 1) := by decide +kernel
theorem dX0_init_13 : decode cX0_init 13 = .ok (.bipush 6, 2) := by decide +kernel
theorem dX0_init_15 : decode cX0_init 15 = .ok (.newarray .int, 2) := by decide +kernel
theorem dX0_init_17 : decode cX0_init 17 = .ok (.putfield 15, 3) := by decide +kernel
theorem dX0_init_20 : decode cX0_init 20 = .ok (.aload_n 0, 1) := by decide +kernel
theorem dX0_init_21 : decode cX0_init 21 = .ok (.bipush 6, 2) := by decide +kernel
theorem dX0_init_23 : decode cX0_init 23 = .ok (.newarray .int, 2) := by decide +kernel
theorem dX0_init_25 : decode cX0_init 25 = .ok (.putfield 18, 3) := by decide +kernel
theorem dX0_init_28 : decode cX0_init 28 = .ok (.aload_n 0, 1) := by decide +kernel
theorem dX0_init_29 : decode cX0_init 29 = .ok (.bipush 6, 2) := by decide +kernel
theorem dX0_init_31 : decode cX0_init 31 = .ok (.newarray .int, 2) := by decide +kernel
theorem dX0_init_33 : decode cX0_init 33 = .ok (.putfield 21, 3) := by decide +kernel
theorem dX0_init_36 : decode cX0_init 36 = .ok (.aload_n 0, 1) := by decide +kernel
theorem dX0_init_37 : decode cX0_init 37 = .ok (.bipush 8, 2) := by decide +kernel
theorem dX0_init_39 : decode cX0_init 39 = .ok (.newarray .int, 2) := by decide +kernel
theorem dX0_init_41 : decode cX0_init 41 = .ok (.putfield 24, 3) := by decide +kernel
theorem dX0_init_44 : decode cX0_init 44 = .ok (.aload_n 0, 1) := by decide +kernel
theorem dX0_init_45 : decode cX0_init 45 = .ok (.bipush 8, 2) := by decide +kernel
theorem dX0_init_47 : decode cX0_init 47 = .ok (.newarray .int, 2) := by decide +kernel
theorem dX0_init_49 : decode cX0_init 49 = .ok (.putfield 27, 3) := by decide +kernel
theorem dX0_init_52 : decode cX0_init 52 = .ok (.aload_n 0, 1) := by decide +kernel
theorem dX0_init_53 : decode cX0_init 53 = .ok (.bipush 8, 2) := by decide +kernel
theorem dX0_init_55 : decode cX0_init 55 = .ok (.newarray .int, 2) := by decide +kernel
theorem dX0_init_57 : decode cX0_init 57 = .ok (.putfield 30, 3) := by decide +kernel
theorem dX0_init_60 : decode cX0_init 60 = .ok (.return_, 1) := by decide +kernel
theorem dX0_clear_0 : decode cX0_clear 0 = .ok (.aload_n 0, 1) := by decide +kernel
theorem dX0_clear_1 : decode cX0_clear 1 = .ok (.iconst 4, 1) := by decide +kernel
theorem dX0_clear_2 : decode cX0_clear 2 = .ok (.putfield 33, 3) := by decide +kernel
theorem dX0_clear_5 : decode cX0_clear 5 = .ok (.aload_n 0, 1) := by decide +kernel
theorem dX0_clear_6 : decode cX0_clear 6 = .ok (.iconst 4, 1) := by decide +kernel
theorem dX0_clear_7 : decode cX0_clear 7 = .ok (.putfield 37, 3) := by decide +kernel
theorem dX0_clear_10 : decode cX0_clear 10 = .ok (.aload_n 0, 1) := by decide +kernel
theorem dX0_clear_11 : decode cX0_clear 11 = .ok (.iconst 2, 1) := by decide +kernel
theorem dX0_clear_12 : decode cX0_clear 12 = .ok (.putfield 40, 3) := by decide +kernel
theorem dX0_clear_15 : decode cX0_clear 15 = .ok (.aload_n 0, 1) := by decide +kernel
theorem dX0_clear_16 : decode cX0_clear 16 = .ok (.iconst 0, 1) := by decide +kernel
theorem dX0_clear_17 : decode cX0_clear 17 = .ok (.putfield 43, 3) := by decide +kernel
theorem dX0_clear_20 : decode cX0_clear 20 = .ok (.aload_n 0, 1) := by decide +kernel
theorem dX0_clear_21 : decode cX0_clear 21 = .ok (.iconst 0, 1) := by decide +kernel
theorem dX0_clear_22 : decode cX0_clear 22 = .ok (.putfield 46, 3) := by decide +kernel
theorem dX0_clear_25 : decode cX0_clear 25 = .ok (.aload_n 0, 1) := by decide +kernel
theorem dX0_clear_26 : decode cX0_clear 26 = .ok (.iconst 0, 1) := by decide +kernel
theorem dX0_clear_27 : decode cX0_clear 27 = .ok (.putfield 49, 3) := by decide +kernel
theorem dX0_clear_30 : decode cX0_clear 30 = .ok (.aload_n 0, 1) := by decide +kernel
theorem dX0_clear_31 : decode cX0_clear 31 = .ok (.iconst 0, 1) := by decide +kernel
theorem dX0_clear_32 : decode cX0_clear 32 = .ok (.putfield 52, 3) := by decide +kernel
theorem dX0_clear_35 : decode cX0_clear 35 = .ok (.aload_n 0, 1) := by decide +kernel
theorem dX0_clear_36 : decode cX0_clear 36 = .ok (.iconst 0, 1) := by decide +kernel
theorem dX0_clear_37 : decode cX0_clear 37 = .ok (.putfield 55, 3) := by decide +kernel
theorem dX0_clear_40 : decode cX0_clear 40 = .ok (.return_, 1) := by decide +kernel
theorem dX0_copyFrom_0 : decode cX0_copyFrom 0 = .ok (.aload_n 0, 1) := by decide +kernel
theorem dX0_copyFrom_1 : decode cX0_copyFrom 1 = .ok (.aload_n 1, 1) := by decide +kernel
theorem dX0_copyFrom_2 : decode cX0_copyFrom 2 = .ok (.getfield 33, 3) := by decide +kernel
theorem dX0_copyFrom_5 : decode cX0_copyFrom 5 = .ok (.putfield 33, 3) := by decide +kernel
theorem dX0_copyFrom_8 : decode cX0_copyFrom 8 = .ok (.aload_n 0, 1) := by decide +kernel
theorem dX0_copyFrom_9 : decode cX0_copyFrom 9 = .ok (.aload_n 1, 1) := by decide +kernel
theorem dX0_copyFrom_10 : decode cX0_copyFrom 10 = .ok (.getfield 37, 3) := by decide +kernel
theorem dX0_copyFrom_13 : decode cX0_copyFrom 13 = .ok (.putfield 37, 3) := by decide +kernel
theorem dX0_copyFrom_16 : decode cX0_copyFrom 16 = .ok (.aload_n 0, 1) := by decide +kernel
theorem dX0_copyFrom_17 : decode cX0_copyFrom 17 = .ok (.aload_n 1, 1) := by decide +kernel
theorem dX0_copyFrom_18 : decode cX0_copyFrom 18 = .ok (.getfield 40, 3) := by decide +kernel
theorem dX0_copyFrom_21 : decode cX0_copyFrom 21 = .ok (.putfield 40, 3) := by decide +kernel
theorem dX0_copyFrom_24 : decode cX0_copyFrom 24 = .ok (.aload_n 0, 1) := by decide +kernel
theorem dX0_copyFrom_25 : decode cX0_copyFrom 25 = .ok (.aload_n 1, 1) := by decide +kernel
theorem dX0_copyFrom_26 : decode cX0_copyFrom 26 = .ok (.getfield 43, 3) := by decide +kernel
theorem dX0_copyFrom_29 : decode cX0_copyFrom 29 = .ok (.putfield 43, 3) := by decide +kernel
theorem dX0_copyFrom_32 : decode cX0_copyFrom 32 = .ok (.aload_n 0, 1) := by decide +kernel
theorem dX0_copyFrom_33 : decode cX0_copyFrom 33 = .ok (.aload_n 1, 1) := by decide +kernel
theorem dX0_copyFrom_34 : decode cX0_copyFrom 34 = .ok (.getfield 46, 3) := by decide +kernel
theorem dX0_copyFrom_37 : decode cX0_copyFrom 37 = .ok (.putfield 46, 3) := by decide +kernel
theorem dX0_copyFrom_40 : decode cX0_copyFrom 40 = .ok (.aload_n 0, 1) := by decide +kernel
theorem dX0_copyFrom_41 : decode cX0_copyFrom 41 = .ok (.aload_n 1, 1) := by decide +kernel
theorem dX0_copyFrom_42 : decode cX0_copyFrom 42 = .ok (.getfield 49, 3) := by decide +kernel
theorem dX0_copyFrom_45 : decode cX0_copyFrom 45 = .ok (.putfield 49, 3) := by decide +kernel
theorem dX0_copyFrom_48 : decode cX0_copyFrom 48 = .ok (.aload_n 0, 1) := by decide +kernel
theorem dX0_copyFrom_49 : decode cX0_copyFrom 49 = .ok (.aload_n 1, 1) := by decide +kernel
theorem dX0_copyFrom_50 : decode cX0_copyFrom 50 = .ok (.getfield 52, 3) := by decide +kernel
theorem dX0_copyFrom_53 : decode cX0_copyFrom 53 = .ok (.putfield 52, 3) := by decide +kernel
theorem dX0_copyFrom_56 : decode cX0_copyFrom 56 = .ok (.aload_n 0, 1) := by decide +kernel
theorem dX0_copyFrom_57 : decode cX0_copyFrom 57 = .ok (.aload_n 1, 1) := by decide +kernel
theorem dX0_copyFrom_58 : decode cX0_copyFrom 58 = .ok (.getfield 55, 3) := by decide +kernel
theorem dX0_copyFrom_61 : decode cX0_copyFrom 61 = .ok (.putfield 55, 3) := by decide +kernel
theorem dX0_copyFrom_64 : decode cX0_copyFrom 64 = .ok (.aload_n 1, 1) := by decide +kernel
theorem dX0_copyFrom_65 : decode cX0_copyFrom 65 = .ok (.getfield 9, 3) := by decide +kernel
theorem dX0_copyFrom_68 : decode cX0_copyFrom 68 = .ok (.aload_n 0, 1) := by decide +kernel
theorem dX0_copyFrom_69 : decode cX0_copyFrom 69 = .ok (.getfield 9, 3) := by decide +kernel
theorem dX0_copyFrom_72 : decode cX0_copyFrom 72 = .ok (.invokestatic 58, 3) := by decide +kernel
theorem dX0_copyFrom_75 : decode cX0_copyFrom 75 = .ok (.aload_n 1, 1) := by decide +kernel
theorem dX0_copyFrom_76 : decode cX0_copyFrom 76 = .ok (.getfield 15, 3) := by decide +kernel
theorem dX0_copyFrom_79 : decode cX0_copyFrom 79 = .ok (.aload_n 0, 1) := by decide +kernel
theorem dX0_copyFrom_80 : decode cX0_copyFrom 80 = .ok (.getfield 15, 3) := by decide +kernel
theorem dX0_copyFrom_83 : decode cX0_copyFrom 83 = .ok (.invokestatic 58, 3) := by decide +kernel
theorem dX0_copyFrom_86 : decode cX0_copyFrom 86 = .ok (.aload_n 1, 1) := by decide +kernel
theorem dX0_copyFrom_87 : decode cX0_copyFrom 87 = .ok (.getfield 18, 3) := by decide +kernel
theorem dX0_copyFrom_90 : decode cX0_copyFrom 90 = .ok (.aload_n 0, 1) := by decide +kernel
theorem dX0_copyFrom_91 : decode cX0_copyFrom 91 = .ok (.getfield 18, 3) := by decide +kernel
theorem dX0_copyFrom_94 : decode cX0_copyFrom 94 = .ok (.invokestatic 58, 3) := by decide +kernel
theorem dX0_copyFrom_97 : decode cX0_copyFrom 97 = .ok (.aload_n 1, 1) := by decide +kernel
theorem dX0_copyFrom_98 : decode cX0_copyFrom 98 = .ok (.getfield 21, 3) := by decide +kernel
theorem dX0_copyFrom_101 : decode cX0_copyFrom 101 = .ok (.aload_n 0, 1) := by decide +kernel
theorem dX0_copyFrom_102 : decode cX0_copyFrom 102 = .ok (.getfield 21, 3) := by decide +kernel
theorem dX0_copyFrom_105 : decode cX0_copyFrom 105 = .ok (.invokestatic 58, 3) := by decide +kernel
theorem dX0_copyFrom_108 : decode cX0_copyFrom 108 = .ok (.aload_n 1, 1) := by decide +kernel
theorem dX0_copyFrom_109 : decode cX0_copyFrom 109 = .ok (.getfield 24, 3) := by decide +kernel
theorem dX0_copyFrom_112 : decode cX0_copyFrom 112 = .ok (.aload_n 0, 1) := by decide +kernel
theorem dX0_copyFrom_113 : decode cX0_copyFrom 113 = .ok (.getfield 24, 3) := by decide +kernel
theorem dX0_copyFrom_116 : decode cX0_copyFrom 116 = .ok (.invokestatic 58, 3) := by decide +kernel
theorem dX0_copyFrom_119 : decode cX0_copyFrom 119 = .ok (.aload_n 1, 1) := by decide +kernel
theorem dX0_copyFrom_120 : decode cX0_copyFrom 120 = .ok (.getfield 27, 3) := by decide +kernel
theorem dX0_copyFrom_123 : decode cX0_copyFrom 123 = .ok (.aload_n 0, 1) := by decide +kernel
theorem dX0_copyFrom_124 : decode cX0_copyFrom 124 = .ok (.getfield 27, 3) := by decide +kernel
theorem dX0_copyFrom_127 : decode cX0_copyFrom 127 = .ok (.invokestatic 58, 3) := by decide +kernel
theorem dX0_copyFrom_130 : decode cX0_copyFrom 130 = .ok (.aload_n 1, 1) := by decide +kernel
theorem dX0_copyFrom_131 : decode cX0_copyFrom 131 = .ok (.getfield 30, 3) := by decide +kernel
theorem dX0_copyFrom_134 : decode cX0_copyFrom 134 = .ok (.aload_n 0, 1) := by decide +kernel
theorem dX0_copyFrom_135 : decode cX0_copyFrom 135 = .ok (.getfield 30, 3) := by decide +kernel
theorem dX0_copyFrom_138 : decode cX0_copyFrom 138 = .ok (.invokestatic 58, 3) := by decide +kernel
theorem dX0_copyFrom_141 : decode cX0_copyFrom 141 = .ok (.return_, 1) := by decide +kernel
theorem dX0_hasPost_0 : decode cX0_hasPost 0 = .ok (.iload_n 1, 1) := by decide +kernel
theorem dX0_hasPost_1 : decode cX0_hasPost 1 = .ok (.ifCond .lt 15, 3) := by decide +kernel
theorem dX0_hasPost_4 : decode cX0_hasPost 4 = .ok (.iload_n 1, 1) := by decide +kernel
theorem dX0_hasPost_5 : decode cX0_hasPost 5 = .ok (.aload_n 0, 1) := by decide +kernel
theorem dX0_hasPost_6 : decode cX0_hasPost 6 = .ok (.getfield 52, 3) := by decide +kernel
theorem dX0_hasPost_9 : decode cX0_hasPost 9 = .ok (.if_icmp .ge 7, 3) := by decide +kernel
theorem dX0_hasPost_12 : decode cX0_hasPost 12 = .ok (.iconst 1, 1) := by decide +kernel
theorem dX0_hasPost_13 : decode cX0_hasPost 13 = .ok (.goto 4, 3) := by decide +kernel
theorem dX0_hasPost_16 : decode cX0_hasPost 16 = .ok (.iconst 0, 1) := by decide +kernel
theorem dX0_hasPost_17 : decode cX0_hasPost 17 = .ok (.ireturn, 1) := by decide +kernel
theorem dX0_hasSailor_0 : decode cX0_hasSailor 0 = .ok (.iload_n 1, 1) := by decide +kernel
theorem dX0_hasSailor_1 : decode cX0_hasSailor 1 = .ok (.ifCond .lt 15, 3) := by decide +kernel
theorem dX0_hasSailor_4 : decode cX0_hasSailor 4 = .ok (.iload_n 1, 1) := by decide +kernel
theorem dX0_hasSailor_5 : decode cX0_hasSailor 5 = .ok (.aload_n 0, 1) := by decide +kernel
theorem dX0_hasSailor_6 : decode cX0_hasSailor 6 = .ok (.getfield 55, 3) := by decide +kernel
theorem dX0_hasSailor_9 : decode cX0_hasSailor 9 = .ok (.if_icmp .ge 7, 3) := by decide +kernel
theorem dX0_hasSailor_12 : decode cX0_hasSailor 12 = .ok (.iconst 1, 1) := by decide +kernel
theorem dX0_hasSailor_13 : decode cX0_hasSailor 13 = .ok (.goto 4, 3) := by decide +kernel
theorem dX0_hasSailor_16 : decode cX0_hasSailor 16 = .ok (.iconst 0, 1) := by decide +kernel
theorem dX0_hasSailor_17 : decode cX0_hasSailor 17 = .ok (.ireturn, 1) := by decide +kernel
theorem dX0_isShipAt_0 : decode cX0_isShipAt 0 = .ok (.aload_n 0, 1) := by decide +kernel
theorem dX0_isShipAt_1 : decode cX0_isShipAt 1 = .ok (.getfield 33, 3) := by decide +kernel
theorem dX0_isShipAt_4 : decode cX0_isShipAt 4 = .ok (.iload_n 1, 1) := by decide +kernel
theorem dX0_isShipAt_5 : decode cX0_isShipAt 5 = .ok (.if_icmp .ne 15, 3) := by decide +kernel
theorem dX0_isShipAt_8 : decode cX0_isShipAt 8 = .ok (.aload_n 0, 1) := by decide +kernel
theorem dX0_isShipAt_9 : decode cX0_isShipAt 9 = .ok (.getfield 37, 3) := by decide +kernel
theorem dX0_isShipAt_12 : decode cX0_isShipAt 12 = .ok (.iload_n 2, 1) := by decide +kernel
theorem dX0_isShipAt_13 : decode cX0_isShipAt 13 = .ok (.if_icmp .ne 7, 3) := by decide +kernel
theorem dX0_isShipAt_16 : decode cX0_isShipAt 16 = .ok (.iconst 1, 1) := by decide +kernel
theorem dX0_isShipAt_17 : decode cX0_isShipAt 17 = .ok (.goto 4, 3) := by decide +kernel
theorem dX0_isShipAt_20 : decode cX0_isShipAt 20 = .ok (.iconst 0, 1) := by decide +kernel
theorem dX0_isShipAt_21 : decode cX0_isShipAt 21 = .ok (.ireturn, 1) := by decide +kernel
theorem dX0_moveShip_0 : decode cX0_moveShip 0 = .ok (.aload_n 0, 1) := by decide +kernel
theorem dX0_moveShip_1 : decode cX0_moveShip 1 = .ok (.iload_n 1, 1) := by decide +kernel
theorem dX0_moveShip_2 : decode cX0_moveShip 2 = .ok (.putfield 33, 3) := by decide +kernel
theorem dX0_moveShip_5 : decode cX0_moveShip 5 = .ok (.aload_n 0, 1) := by decide +kernel
theorem dX0_moveShip_6 : decode cX0_moveShip 6 = .ok (.iload_n 2, 1) := by decide +kernel
theorem dX0_moveShip_7 : decode cX0_moveShip 7 = .ok (.putfield 37, 3) := by decide +kernel
theorem dX0_moveShip_10 : decode cX0_moveShip 10 = .ok (.return_, 1) := by decide +kernel
theorem dX0_addPost_0 : decode cX0_addPost 0 = .ok (.aload_n 0, 1) := by decide +kernel
theorem dX0_addPost_1 : decode cX0_addPost 1 = .ok (.getfield 52, 3) := by decide +kernel
theorem dX0_addPost_4 : decode cX0_addPost 4 = .ok (.aload_n 0, 1) := by decide +kernel
theorem dX0_addPost_5 : decode cX0_addPost 5 = .ok (.getfield 9, 3) := by decide +kernel
theorem dX0_addPost_8 : decode cX0_addPost 8 = .ok (.arraylength, 1) := by decide +kernel
theorem dX0_addPost_9 : decode cX0_addPost 9 = .ok (.if_icmp .ge 36, 3) := by decide +kernel
theorem dX0_addPost_12 : decode cX0_addPost 12 = .ok (.aload_n 0, 1) := by decide +kernel
theorem dX0_addPost_13 : decode cX0_addPost 13 = .ok (.aload_n 0, 1) := by decide +kernel
theorem dX0_addPost_14 : decode cX0_addPost 14 = .ok (.getfield 52, 3) := by decide +kernel
theorem dX0_addPost_17 : decode cX0_addPost 17 = .ok (.iload_n 1, 1) := by decide +kernel
theorem dX0_addPost_18 : decode cX0_addPost 18 = .ok (.iload_n 2, 1) := by decide +kernel
theorem dX0_addPost_19 : decode cX0_addPost 19 = .ok (.iload_n 3, 1) := by decide +kernel
theorem dX0_addPost_20 : decode cX0_addPost 20 = .ok (.invokevirtual 64, 3) := by decide +kernel
theorem dX0_addPost_23 : decode cX0_addPost 23 = .ok (.aload_n 0, 1) := by decide +kernel
theorem dX0_addPost_24 : decode cX0_addPost 24 = .ok (.getfield 21, 3) := by decide +kernel
theorem dX0_addPost_27 : decode cX0_addPost 27 = .ok (.aload_n 0, 1) := by decide +kernel
theorem dX0_addPost_28 : decode cX0_addPost 28 = .ok (.getfield 52, 3) := by decide +kernel
theorem dX0_addPost_31 : decode cX0_addPost 31 = .ok (.iconst 0, 1) := by decide +kernel
theorem dX0_addPost_32 : decode cX0_addPost 32 = .ok (.invokestatic 68, 3) := by decide +kernel
theorem dX0_addPost_35 : decode cX0_addPost 35 = .ok (.aload_n 0, 1) := by decide +kernel
theorem dX0_addPost_36 : decode cX0_addPost 36 = .ok (.dup, 1) := by decide +kernel
theorem dX0_addPost_37 : decode cX0_addPost 37 = .ok (.getfield 52, 3) := by decide +kernel
theorem dX0_addPost_40 : decode cX0_addPost 40 = .ok (.iconst 1, 1) := by decide +kernel
theorem dX0_addPost_41 : decode cX0_addPost 41 = .ok (.iadd, 1) := by decide +kernel
theorem dX0_addPost_42 : decode cX0_addPost 42 = .ok (.putfield 52, 3) := by decide +kernel
theorem dX0_addPost_45 : decode cX0_addPost 45 = .ok (.return_, 1) := by decide +kernel
theorem dX0_changePost_0 : decode cX0_changePost 0 = .ok (.aload_n 0, 1) := by decide +kernel
theorem dX0_changePost_1 : decode cX0_changePost 1 = .ok (.getfield 9, 3) := by decide +kernel
theorem dX0_changePost_4 : decode cX0_changePost 4 = .ok (.iload_n 1, 1) := by decide +kernel
theorem dX0_changePost_5 : decode cX0_changePost 5 = .ok (.iload_n 2, 1) := by decide +kernel
theorem dX0_changePost_6 : decode cX0_changePost 6 = .ok (.invokestatic 68, 3) := by decide +kernel
theorem dX0_changePost_9 : decode cX0_changePost 9 = .ok (.aload_n 0, 1) := by decide +kernel
theorem dX0_changePost_10 : decode cX0_changePost 10 = .ok (.getfield 15, 3) := by decide +kernel
theorem dX0_changePost_13 : decode cX0_changePost 13 = .ok (.iload_n 1, 1) := by decide +kernel
theorem dX0_changePost_14 : decode cX0_changePost 14 = .ok (.iload_n 3, 1) := by decide +kernel
theorem dX0_changePost_15 : decode cX0_changePost 15 = .ok (.invokestatic 68, 3) := by decide +kernel
theorem dX0_changePost_18 : decode cX0_changePost 18 = .ok (.aload_n 0, 1) := by decide +kernel
theorem dX0_changePost_19 : decode cX0_changePost 19 = .ok (.getfield 18, 3) := by decide +kernel
theorem dX0_changePost_22 : decode cX0_changePost 22 = .ok (.iload_n 1, 1) := by decide +kernel
theorem dX0_changePost_23 : decode cX0_changePost 23 = .ok (.iload 4, 2) := by decide +kernel
theorem dX0_changePost_25 : decode cX0_changePost 25 = .ok (.invokestatic 68, 3) := by decide +kernel
theorem dX0_changePost_28 : decode cX0_changePost 28 = .ok (.return_, 1) := by decide +kernel
theorem dX0_addSailor_0 : decode cX0_addSailor 0 = .ok (.aload_n 0, 1) := by decide +kernel
theorem dX0_addSailor_1 : decode cX0_addSailor 1 = .ok (.getfield 55, 3) := by decide +kernel
theorem dX0_addSailor_4 : decode cX0_addSailor 4 = .ok (.aload_n 0, 1) := by decide +kernel
theorem dX0_addSailor_5 : decode cX0_addSailor 5 = .ok (.getfield 24, 3) := by decide +kernel
theorem dX0_addSailor_8 : decode cX0_addSailor 8 = .ok (.arraylength, 1) := by decide +kernel
theorem dX0_addSailor_9 : decode cX0_addSailor 9 = .ok (.if_icmp .ge 49, 3) := by decide +kernel
theorem dX0_addSailor_12 : decode cX0_addSailor 12 = .ok (.aload_n 0, 1) := by decide +kernel
theorem dX0_addSailor_13 : decode cX0_addSailor 13 = .ok (.getfield 24, 3) := by decide +kernel
theorem dX0_addSailor_16 : decode cX0_addSailor 16 = .ok (.aload_n 0, 1) := by decide +kernel
theorem dX0_addSailor_17 : decode cX0_addSailor 17 = .ok (.getfield 55, 3) := by decide +kernel
theorem dX0_addSailor_20 : decode cX0_addSailor 20 = .ok (.iload_n 1, 1) := by decide +kernel
theorem dX0_addSailor_21 : decode cX0_addSailor 21 = .ok (.invokestatic 68, 3) := by decide +kernel
theorem dX0_addSailor_24 : decode cX0_addSailor 24 = .ok (.aload_n 0, 1) := by decide +kernel
theorem dX0_addSailor_25 : decode cX0_addSailor 25 = .ok (.getfield 27, 3) := by decide +kernel
theorem dX0_addSailor_28 : decode cX0_addSailor 28 = .ok (.aload_n 0, 1) := by decide +kernel
theorem dX0_addSailor_29 : decode cX0_addSailor 29 = .ok (.getfield 55, 3) := by decide +kernel
theorem dX0_addSailor_32 : decode cX0_addSailor 32 = .ok (.iload_n 2, 1) := by decide +kernel
theorem dX0_addSailor_33 : decode cX0_addSailor 33 = .ok (.invokestatic 68, 3) := by decide +kernel
theorem dX0_addSailor_36 : decode cX0_addSailor 36 = .ok (.aload_n 0, 1) := by decide +kernel
theorem dX0_addSailor_37 : decode cX0_addSailor 37 = .ok (.getfield 30, 3) := by decide +kernel
theorem dX0_addSailor_40 : decode cX0_addSailor 40 = .ok (.aload_n 0, 1) := by decide +kernel
theorem dX0_addSailor_41 : decode cX0_addSailor 41 = .ok (.getfield 55, 3) := by decide +kernel
theorem dX0_addSailor_44 : decode cX0_addSailor 44 = .ok (.iload_n 3, 1) := by decide +kernel
theorem dX0_addSailor_45 : decode cX0_addSailor 45 = .ok (.invokestatic 68, 3) := by decide +kernel
theorem dX0_addSailor_48 : decode cX0_addSailor 48 = .ok (.aload_n 0, 1) := by decide +kernel
theorem dX0_addSailor_49 : decode cX0_addSailor 49 = .ok (.dup, 1) := by decide +kernel
theorem dX0_addSailor_50 : decode cX0_addSailor 50 = .ok (.getfield 55, 3) := by decide +kernel
theorem dX0_addSailor_53 : decode cX0_addSailor 53 = .ok (.iconst 1, 1) := by decide +kernel
theorem dX0_addSailor_54 : decode cX0_addSailor 54 = .ok (.iadd, 1) := by decide +kernel
theorem dX0_addSailor_55 : decode cX0_addSailor 55 = .ok (.putfield 55, 3) := by decide +kernel
theorem dX0_addSailor_58 : decode cX0_addSailor 58 = .ok (.return_, 1) := by decide +kernel
theorem dX0_standingPosts_0 : decode cX0_standingPosts 0 = .ok (.iconst 0, 1) := by decide +kernel
theorem dX0_standingPosts_1 : decode cX0_standingPosts 1 = .ok (.istore_n 1, 1) := by decide +kernel
theorem dX0_standingPosts_2 : decode cX0_standingPosts 2 = .ok (.iconst 0, 1) := by decide +kernel
theorem dX0_standingPosts_3 : decode cX0_standingPosts 3 = .ok (.istore_n 2, 1) := by decide +kernel
theorem dX0_standingPosts_4 : decode cX0_standingPosts 4 = .ok (.iload_n 2, 1) := by decide +kernel
theorem dX0_standingPosts_5 : decode cX0_standingPosts 5 = .ok (.aload_n 0, 1) := by decide +kernel
theorem dX0_standingPosts_6 : decode cX0_standingPosts 6 = .ok (.getfield 52, 3) := by decide +kernel
theorem dX0_standingPosts_9 : decode cX0_standingPosts 9 = .ok (.if_icmp .ge 26, 3) := by decide +kernel
theorem dX0_standingPosts_12 : decode cX0_standingPosts 12 = .ok (.aload_n 0, 1) := by decide +kernel
theorem dX0_standingPosts_13 : decode cX0_standingPosts 13 = .ok (.getfield 21, 3) := by decide +kernel
theorem dX0_standingPosts_16 : decode cX0_standingPosts 16 = .ok (.iload_n 2, 1) := by decide +kernel
theorem dX0_standingPosts_17 : decode cX0_standingPosts 17 = .ok (.invokestatic 72, 3) := by decide +kernel
theorem dX0_standingPosts_20 : decode cX0_standingPosts 20 = .ok (.ifCond .ne 9, 3) := by decide +kernel
theorem dX0_standingPosts_23 : decode cX0_standingPosts 23 = .ok (.iload_n 1, 1) := by decide +kernel
theorem dX0_standingPosts_24 : decode cX0_standingPosts 24 = .ok (.iconst 1, 1) := by decide +kernel
theorem dX0_standingPosts_25 : decode cX0_standingPosts 25 = .ok (.iload_n 2, 1) := by decide +kernel
theorem dX0_standingPosts_26 : decode cX0_standingPosts 26 = .ok (.ishl, 1) := by decide +kernel
theorem dX0_standingPosts_27 : decode cX0_standingPosts 27 = .ok (.ior, 1) := by decide +kernel
theorem dX0_standingPosts_28 : decode cX0_standingPosts 28 = .ok (.istore_n 1, 1) := by decide +kernel
theorem dX0_standingPosts_29 : decode cX0_standingPosts 29 = .ok (.iinc 2 1, 3) := by decide +kernel
theorem dX0_standingPosts_32 : decode cX0_standingPosts 32 = .ok (.goto (-28), 3) := by decide +kernel
theorem dX0_standingPosts_35 : decode cX0_standingPosts 35 = .ok (.iload_n 1, 1) := by decide +kernel
theorem dX0_standingPosts_36 : decode cX0_standingPosts 36 = .ok (.ireturn, 1) := by decide +kernel
theorem dX0_apart_0 : decode cX0_apart 0 = .ok (.aload_n 0, 1) := by decide +kernel
theorem dX0_apart_1 : decode cX0_apart 1 = .ok (.getfield 9, 3) := by decide +kernel
theorem dX0_apart_4 : decode cX0_apart 4 = .ok (.iload_n 1, 1) := by decide +kernel
theorem dX0_apart_5 : decode cX0_apart 5 = .ok (.invokestatic 72, 3) := by decide +kernel
theorem dX0_apart_8 : decode cX0_apart 8 = .ok (.aload_n 0, 1) := by decide +kernel
theorem dX0_apart_9 : decode cX0_apart 9 = .ok (.getfield 33, 3) := by decide +kernel
theorem dX0_apart_12 : decode cX0_apart 12 = .ok (.isub, 1) := by decide +kernel
theorem dX0_apart_13 : decode cX0_apart 13 = .ok (.invokestatic 76, 3) := by decide +kernel
theorem dX0_apart_16 : decode cX0_apart 16 = .ok (.aload_n 0, 1) := by decide +kernel
theorem dX0_apart_17 : decode cX0_apart 17 = .ok (.getfield 15, 3) := by decide +kernel
theorem dX0_apart_20 : decode cX0_apart 20 = .ok (.iload_n 1, 1) := by decide +kernel
theorem dX0_apart_21 : decode cX0_apart 21 = .ok (.invokestatic 72, 3) := by decide +kernel
theorem dX0_apart_24 : decode cX0_apart 24 = .ok (.aload_n 0, 1) := by decide +kernel
theorem dX0_apart_25 : decode cX0_apart 25 = .ok (.getfield 37, 3) := by decide +kernel
theorem dX0_apart_28 : decode cX0_apart 28 = .ok (.isub, 1) := by decide +kernel
theorem dX0_apart_29 : decode cX0_apart 29 = .ok (.invokestatic 76, 3) := by decide +kernel
theorem dX0_apart_32 : decode cX0_apart 32 = .ok (.iadd, 1) := by decide +kernel
theorem dX0_apart_33 : decode cX0_apart 33 = .ok (.ireturn, 1) := by decide +kernel
theorem dX0_nearestPost_0 : decode cX0_nearestPost 0 = .ok (.aload_n 0, 1) := by decide +kernel
theorem dX0_nearestPost_1 : decode cX0_nearestPost 1 = .ok (.getfield 27, 3) := by decide +kernel
theorem dX0_nearestPost_4 : decode cX0_nearestPost 4 = .ok (.iload_n 1, 1) := by decide +kernel
theorem dX0_nearestPost_5 : decode cX0_nearestPost 5 = .ok (.invokestatic 72, 3) := by decide +kernel
theorem dX0_nearestPost_8 : decode cX0_nearestPost 8 = .ok (.istore_n 2, 1) := by decide +kernel
theorem dX0_nearestPost_9 : decode cX0_nearestPost 9 = .ok (.bipush (-4), 2) := by decide +kernel
theorem dX0_nearestPost_11 : decode cX0_nearestPost 11 = .ok (.istore_n 3, 1) := by decide +kernel
theorem dX0_nearestPost_12 : decode cX0_nearestPost 12 = .ok (.iconst 0, 1) := by decide +kernel
theorem dX0_nearestPost_13 : decode cX0_nearestPost 13 = .ok (.istore 4, 2) := by decide +kernel
theorem dX0_nearestPost_15 : decode cX0_nearestPost 15 = .ok (.iconst 0, 1) := by decide +kernel
theorem dX0_nearestPost_16 : decode cX0_nearestPost 16 = .ok (.istore 5, 2) := by decide +kernel
theorem dX0_nearestPost_18 : decode cX0_nearestPost 18 = .ok (.iload 5, 2) := by decide +kernel
theorem dX0_nearestPost_20 : decode cX0_nearestPost 20 = .ok (.aload_n 0, 1) := by decide +kernel
theorem dX0_nearestPost_21 : decode cX0_nearestPost 21 = .ok (.getfield 52, 3) := by decide +kernel
theorem dX0_nearestPost_24 : decode cX0_nearestPost 24 = .ok (.if_icmp .ge 62, 3) := by decide +kernel
theorem dX0_nearestPost_27 : decode cX0_nearestPost 27 = .ok (.aload_n 0, 1) := by decide +kernel
theorem dX0_nearestPost_28 : decode cX0_nearestPost 28 = .ok (.getfield 18, 3) := by decide +kernel
theorem dX0_nearestPost_31 : decode cX0_nearestPost 31 = .ok (.iload 5, 2) := by decide +kernel
theorem dX0_nearestPost_33 : decode cX0_nearestPost 33 = .ok (.invokestatic 72, 3) := by decide +kernel
theorem dX0_nearestPost_36 : decode cX0_nearestPost 36 = .ok (.iload_n 2, 1) := by decide +kernel
theorem dX0_nearestPost_37 : decode cX0_nearestPost 37 = .ok (.if_icmp .ne 43, 3) := by decide +kernel
theorem dX0_nearestPost_40 : decode cX0_nearestPost 40 = .ok (.aload_n 0, 1) := by decide +kernel
theorem dX0_nearestPost_41 : decode cX0_nearestPost 41 = .ok (.getfield 21, 3) := by decide +kernel
theorem dX0_nearestPost_44 : decode cX0_nearestPost 44 = .ok (.iload 5, 2) := by decide +kernel
theorem dX0_nearestPost_46 : decode cX0_nearestPost 46 = .ok (.invokestatic 72, 3) := by decide +kernel
theorem dX0_nearestPost_49 : decode cX0_nearestPost 49 = .ok (.ifCond .ne 31, 3) := by decide +kernel
theorem dX0_nearestPost_52 : decode cX0_nearestPost 52 = .ok (.aload_n 0, 1) := by decide +kernel
theorem dX0_nearestPost_53 : decode cX0_nearestPost 53 = .ok (.iload 5, 2) := by decide +kernel
theorem dX0_nearestPost_55 : decode cX0_nearestPost 55 = .ok (.invokevirtual 82, 3) := by decide +kernel
theorem dX0_nearestPost_58 : decode cX0_nearestPost 58 = .ok (.istore 6, 2) := by decide +kernel
theorem dX0_nearestPost_60 : decode cX0_nearestPost 60 = .ok (.iload_n 3, 1) := by decide +kernel
theorem dX0_nearestPost_61 : decode cX0_nearestPost 61 = .ok (.bipush (-4), 2) := by decide +kernel
theorem dX0_nearestPost_63 : decode cX0_nearestPost 63 = .ok (.if_icmp .eq 10, 3) := by decide +kernel
theorem dX0_nearestPost_66 : decode cX0_nearestPost 66 = .ok (.iload 6, 2) := by decide +kernel
theorem dX0_nearestPost_68 : decode cX0_nearestPost 68 = .ok (.iload 4, 2) := by decide +kernel
theorem dX0_nearestPost_70 : decode cX0_nearestPost 70 = .ok (.if_icmp .ge 10, 3) := by decide +kernel
theorem dX0_nearestPost_73 : decode cX0_nearestPost 73 = .ok (.iload 5, 2) := by decide +kernel
theorem dX0_nearestPost_75 : decode cX0_nearestPost 75 = .ok (.istore_n 3, 1) := by decide +kernel
theorem dX0_nearestPost_76 : decode cX0_nearestPost 76 = .ok (.iload 6, 2) := by decide +kernel
theorem dX0_nearestPost_78 : decode cX0_nearestPost 78 = .ok (.istore 4, 2) := by decide +kernel
theorem dX0_nearestPost_80 : decode cX0_nearestPost 80 = .ok (.iinc 5 1, 3) := by decide +kernel
theorem dX0_nearestPost_83 : decode cX0_nearestPost 83 = .ok (.goto (-65), 3) := by decide +kernel
theorem dX0_nearestPost_86 : decode cX0_nearestPost 86 = .ok (.iload_n 3, 1) := by decide +kernel
theorem dX0_nearestPost_87 : decode cX0_nearestPost 87 = .ok (.ireturn, 1) := by decide +kernel
theorem dX0_strengthTo_0 : decode cX0_strengthTo 0 = .ok (.aload_n 0, 1) := by decide +kernel
theorem dX0_strengthTo_1 : decode cX0_strengthTo 1 = .ok (.iload_n 2, 1) := by decide +kernel
theorem dX0_strengthTo_2 : decode cX0_strengthTo 2 = .ok (.invokevirtual 85, 3) := by decide +kernel
theorem dX0_strengthTo_5 : decode cX0_strengthTo 5 = .ok (.ifCond .eq 11, 3) := by decide +kernel
theorem dX0_strengthTo_8 : decode cX0_strengthTo 8 = .ok (.aload_n 0, 1) := by decide +kernel
theorem dX0_strengthTo_9 : decode cX0_strengthTo 9 = .ok (.iload_n 2, 1) := by decide +kernel
theorem dX0_strengthTo_10 : decode cX0_strengthTo 10 = .ok (.invokevirtual 82, 3) := by decide +kernel
theorem dX0_strengthTo_13 : decode cX0_strengthTo 13 = .ok (.goto 4, 3) := by decide +kernel
theorem dX0_strengthTo_16 : decode cX0_strengthTo 16 = .ok (.iconst 0, 1) := by decide +kernel
theorem dX0_strengthTo_17 : decode cX0_strengthTo 17 = .ok (.istore_n 3, 1) := by decide +kernel
theorem dX0_strengthTo_18 : decode cX0_strengthTo 18 = .ok (.iload_n 3, 1) := by decide +kernel
theorem dX0_strengthTo_19 : decode cX0_strengthTo 19 = .ok (.ifCond .ne 5, 3) := by decide +kernel
theorem dX0_strengthTo_22 : decode cX0_strengthTo 22 = .ok (.iconst 0, 1) := by decide +kernel
theorem dX0_strengthTo_23 : decode cX0_strengthTo 23 = .ok (.ireturn, 1) := by decide +kernel
theorem dX0_strengthTo_24 : decode cX0_strengthTo 24 = .ok (.aload_n 0, 1) := by decide +kernel
theorem dX0_strengthTo_25 : decode cX0_strengthTo 25 = .ok (.getfield 30, 3) := by decide +kernel
theorem dX0_strengthTo_28 : decode cX0_strengthTo 28 = .ok (.iload_n 1, 1) := by decide +kernel
theorem dX0_strengthTo_29 : decode cX0_strengthTo 29 = .ok (.invokestatic 72, 3) := by decide +kernel
theorem dX0_strengthTo_32 : decode cX0_strengthTo 32 = .ok (.istore 4, 2) := by decide +kernel
theorem dX0_strengthTo_34 : decode cX0_strengthTo 34 = .ok (.aload_n 0, 1) := by decide +kernel
theorem dX0_strengthTo_35 : decode cX0_strengthTo 35 = .ok (.getfield 24, 3) := by decide +kernel
theorem dX0_strengthTo_38 : decode cX0_strengthTo 38 = .ok (.iload_n 1, 1) := by decide +kernel
theorem dX0_strengthTo_39 : decode cX0_strengthTo 39 = .ok (.invokestatic 72, 3) := by decide +kernel
theorem dX0_strengthTo_42 : decode cX0_strengthTo 42 = .ok (.tableswitch 53 1 3 #[26, 29, 39], 26) := by decide +kernel
theorem dX0_strengthTo_68 : decode cX0_strengthTo 68 = .ok (.iload 4, 2) := by decide +kernel
theorem dX0_strengthTo_70 : decode cX0_strengthTo 70 = .ok (.ireturn, 1) := by decide +kernel
theorem dX0_strengthTo_71 : decode cX0_strengthTo 71 = .ok (.bipush 12, 2) := by decide +kernel
theorem dX0_strengthTo_73 : decode cX0_strengthTo 73 = .ok (.iload 4, 2) := by decide +kernel
theorem dX0_strengthTo_75 : decode cX0_strengthTo 75 = .ok (.iload_n 3, 1) := by decide +kernel
theorem dX0_strengthTo_76 : decode cX0_strengthTo 76 = .ok (.iadd, 1) := by decide +kernel
theorem dX0_strengthTo_77 : decode cX0_strengthTo 77 = .ok (.invokestatic 89, 3) := by decide +kernel
theorem dX0_strengthTo_80 : decode cX0_strengthTo 80 = .ok (.ireturn, 1) := by decide +kernel
theorem dX0_strengthTo_81 : decode cX0_strengthTo 81 = .ok (.iload_n 3, 1) := by decide +kernel
theorem dX0_strengthTo_82 : decode cX0_strengthTo 82 = .ok (.iconst 2, 1) := by decide +kernel
theorem dX0_strengthTo_83 : decode cX0_strengthTo 83 = .ok (.if_icmp .gt 10, 3) := by decide +kernel
theorem dX0_strengthTo_86 : decode cX0_strengthTo 86 = .ok (.iconst 2, 1) := by decide +kernel
theorem dX0_strengthTo_87 : decode cX0_strengthTo 87 = .ok (.iload 4, 2) := by decide +kernel
theorem dX0_strengthTo_89 : decode cX0_strengthTo 89 = .ok (.imul, 1) := by decide +kernel
theorem dX0_strengthTo_90 : decode cX0_strengthTo 90 = .ok (.goto 4, 3) := by decide +kernel
theorem dX0_strengthTo_93 : decode cX0_strengthTo 93 = .ok (.iconst 0, 1) := by decide +kernel
theorem dX0_strengthTo_94 : decode cX0_strengthTo 94 = .ok (.ireturn, 1) := by decide +kernel
theorem dX0_strengthTo_95 : decode cX0_strengthTo 95 = .ok (.iconst 0, 1) := by decide +kernel
theorem dX0_strengthTo_96 : decode cX0_strengthTo 96 = .ok (.iload 4, 2) := by decide +kernel
theorem dX0_strengthTo_98 : decode cX0_strengthTo 98 = .ok (.iload_n 3, 1) := by decide +kernel
theorem dX0_strengthTo_99 : decode cX0_strengthTo 99 = .ok (.isub, 1) := by decide +kernel
theorem dX0_strengthTo_100 : decode cX0_strengthTo 100 = .ok (.invokestatic 93, 3) := by decide +kernel
theorem dX0_strengthTo_103 : decode cX0_strengthTo 103 = .ok (.ireturn, 1) := by decide +kernel
theorem dX0_headingTo_0 : decode cX0_headingTo 0 = .ok (.iload_n 2, 1) := by decide +kernel
theorem dX0_headingTo_1 : decode cX0_headingTo 1 = .ok (.ifCond .eq 11, 3) := by decide +kernel
theorem dX0_headingTo_4 : decode cX0_headingTo 4 = .ok (.aload_n 0, 1) := by decide +kernel
theorem dX0_headingTo_5 : decode cX0_headingTo 5 = .ok (.iload_n 1, 1) := by decide +kernel
theorem dX0_headingTo_6 : decode cX0_headingTo 6 = .ok (.invokevirtual 85, 3) := by decide +kernel
theorem dX0_headingTo_9 : decode cX0_headingTo 9 = .ok (.ifCond .ne 5, 3) := by decide +kernel
theorem dX0_headingTo_12 : decode cX0_headingTo 12 = .ok (.iconst 0, 1) := by decide +kernel
theorem dX0_headingTo_13 : decode cX0_headingTo 13 = .ok (.ireturn, 1) := by decide +kernel
theorem dX0_headingTo_14 : decode cX0_headingTo 14 = .ok (.aload_n 0, 1) := by decide +kernel
theorem dX0_headingTo_15 : decode cX0_headingTo 15 = .ok (.getfield 9, 3) := by decide +kernel
theorem dX0_headingTo_18 : decode cX0_headingTo 18 = .ok (.iload_n 1, 1) := by decide +kernel
theorem dX0_headingTo_19 : decode cX0_headingTo 19 = .ok (.invokestatic 72, 3) := by decide +kernel
theorem dX0_headingTo_22 : decode cX0_headingTo 22 = .ok (.aload_n 0, 1) := by decide +kernel
theorem dX0_headingTo_23 : decode cX0_headingTo 23 = .ok (.getfield 33, 3) := by decide +kernel
theorem dX0_headingTo_26 : decode cX0_headingTo 26 = .ok (.isub, 1) := by decide +kernel
theorem dX0_headingTo_27 : decode cX0_headingTo 27 = .ok (.istore_n 3, 1) := by decide +kernel
theorem dX0_headingTo_28 : decode cX0_headingTo 28 = .ok (.aload_n 0, 1) := by decide +kernel
theorem dX0_headingTo_29 : decode cX0_headingTo 29 = .ok (.getfield 15, 3) := by decide +kernel
theorem dX0_headingTo_32 : decode cX0_headingTo 32 = .ok (.iload_n 1, 1) := by decide +kernel
theorem dX0_headingTo_33 : decode cX0_headingTo 33 = .ok (.invokestatic 72, 3) := by decide +kernel
theorem dX0_headingTo_36 : decode cX0_headingTo 36 = .ok (.aload_n 0, 1) := by decide +kernel
theorem dX0_headingTo_37 : decode cX0_headingTo 37 = .ok (.getfield 37, 3) := by decide +kernel
theorem dX0_headingTo_40 : decode cX0_headingTo 40 = .ok (.isub, 1) := by decide +kernel
theorem dX0_headingTo_41 : decode cX0_headingTo 41 = .ok (.istore 4, 2) := by decide +kernel
theorem dX0_headingTo_43 : decode cX0_headingTo 43 = .ok (.iload_n 3, 1) := by decide +kernel
theorem dX0_headingTo_44 : decode cX0_headingTo 44 = .ok (.invokestatic 76, 3) := by decide +kernel
theorem dX0_headingTo_47 : decode cX0_headingTo 47 = .ok (.iload 4, 2) := by decide +kernel
theorem dX0_headingTo_49 : decode cX0_headingTo 49 = .ok (.invokestatic 76, 3) := by decide +kernel
theorem dX0_headingTo_52 : decode cX0_headingTo 52 = .ok (.if_icmp .lt 13, 3) := by decide +kernel
theorem dX0_headingTo_55 : decode cX0_headingTo 55 = .ok (.iload_n 3, 1) := by decide +kernel
theorem dX0_headingTo_56 : decode cX0_headingTo 56 = .ok (.ifCond .le 7, 3) := by decide +kernel
theorem dX0_headingTo_59 : decode cX0_headingTo 59 = .ok (.iconst 2, 1) := by decide +kernel
theorem dX0_headingTo_60 : decode cX0_headingTo 60 = .ok (.goto 4, 3) := by decide +kernel
theorem dX0_headingTo_63 : decode cX0_headingTo 63 = .ok (.iconst 4, 1) := by decide +kernel
theorem dX0_headingTo_64 : decode cX0_headingTo 64 = .ok (.ireturn, 1) := by decide +kernel
theorem dX0_headingTo_65 : decode cX0_headingTo 65 = .ok (.iload 4, 2) := by decide +kernel
theorem dX0_headingTo_67 : decode cX0_headingTo 67 = .ok (.ifCond .le 7, 3) := by decide +kernel
theorem dX0_headingTo_70 : decode cX0_headingTo 70 = .ok (.iconst 3, 1) := by decide +kernel
theorem dX0_headingTo_71 : decode cX0_headingTo 71 = .ok (.goto 4, 3) := by decide +kernel
theorem dX0_headingTo_74 : decode cX0_headingTo 74 = .ok (.iconst 1, 1) := by decide +kernel
theorem dX0_headingTo_75 : decode cX0_headingTo 75 = .ok (.ireturn, 1) := by decide +kernel
theorem dX0_addPull_0 : decode cX0_addPull 0 = .ok (.aload_n 0, 1) := by decide +kernel
theorem dX0_addPull_1 : decode cX0_addPull 1 = .ok (.dup, 1) := by decide +kernel
theorem dX0_addPull_2 : decode cX0_addPull 2 = .ok (.getfield 96, 3) := by decide +kernel
theorem dX0_addPull_5 : decode cX0_addPull 5 = .ok (.getstatic 99, 3) := by decide +kernel
theorem dX0_addPull_8 : decode cX0_addPull 8 = .ok (.iload_n 1, 1) := by decide +kernel
theorem dX0_addPull_9 : decode cX0_addPull 9 = .ok (.invokestatic 72, 3) := by decide +kernel
theorem dX0_addPull_12 : decode cX0_addPull 12 = .ok (.iload_n 2, 1) := by decide +kernel
theorem dX0_addPull_13 : decode cX0_addPull 13 = .ok (.imul, 1) := by decide +kernel
theorem dX0_addPull_14 : decode cX0_addPull 14 = .ok (.iadd, 1) := by decide +kernel
theorem dX0_addPull_15 : decode cX0_addPull 15 = .ok (.putfield 96, 3) := by decide +kernel
theorem dX0_addPull_18 : decode cX0_addPull 18 = .ok (.aload_n 0, 1) := by decide +kernel
theorem dX0_addPull_19 : decode cX0_addPull 19 = .ok (.dup, 1) := by decide +kernel
theorem dX0_addPull_20 : decode cX0_addPull 20 = .ok (.getfield 102, 3) := by decide +kernel
theorem dX0_addPull_23 : decode cX0_addPull 23 = .ok (.getstatic 105, 3) := by decide +kernel
theorem dX0_addPull_26 : decode cX0_addPull 26 = .ok (.iload_n 1, 1) := by decide +kernel
theorem dX0_addPull_27 : decode cX0_addPull 27 = .ok (.invokestatic 72, 3) := by decide +kernel
theorem dX0_addPull_30 : decode cX0_addPull 30 = .ok (.iload_n 2, 1) := by decide +kernel
theorem dX0_addPull_31 : decode cX0_addPull 31 = .ok (.imul, 1) := by decide +kernel
theorem dX0_addPull_32 : decode cX0_addPull 32 = .ok (.iadd, 1) := by decide +kernel
theorem dX0_addPull_33 : decode cX0_addPull 33 = .ok (.putfield 102, 3) := by decide +kernel
theorem dX0_addPull_36 : decode cX0_addPull 36 = .ok (.return_, 1) := by decide +kernel
theorem dX0_goesTo_0 : decode cX0_goesTo 0 = .ok (.aload_n 0, 1) := by decide +kernel
theorem dX0_goesTo_1 : decode cX0_goesTo 1 = .ok (.iconst 0, 1) := by decide +kernel
theorem dX0_goesTo_2 : decode cX0_goesTo 2 = .ok (.putfield 96, 3) := by decide +kernel
theorem dX0_goesTo_5 : decode cX0_goesTo 5 = .ok (.aload_n 0, 1) := by decide +kernel
theorem dX0_goesTo_6 : decode cX0_goesTo 6 = .ok (.iconst 0, 1) := by decide +kernel
theorem dX0_goesTo_7 : decode cX0_goesTo 7 = .ok (.putfield 102, 3) := by decide +kernel
theorem dX0_goesTo_10 : decode cX0_goesTo 10 = .ok (.aload_n 0, 1) := by decide +kernel
theorem dX0_goesTo_11 : decode cX0_goesTo 11 = .ok (.aload_n 0, 1) := by decide +kernel
theorem dX0_goesTo_12 : decode cX0_goesTo 12 = .ok (.getfield 43, 3) := by decide +kernel
theorem dX0_goesTo_15 : decode cX0_goesTo 15 = .ok (.aload_n 0, 1) := by decide +kernel
theorem dX0_goesTo_16 : decode cX0_goesTo 16 = .ok (.getfield 46, 3) := by decide +kernel
theorem dX0_goesTo_19 : decode cX0_goesTo 19 = .ok (.invokevirtual 108, 3) := by decide +kernel
theorem dX0_goesTo_22 : decode cX0_goesTo 22 = .ok (.iconst 0, 1) := by decide +kernel
theorem dX0_goesTo_23 : decode cX0_goesTo 23 = .ok (.istore_n 1, 1) := by decide +kernel
theorem dX0_goesTo_24 : decode cX0_goesTo 24 = .ok (.iload_n 1, 1) := by decide +kernel
theorem dX0_goesTo_25 : decode cX0_goesTo 25 = .ok (.aload_n 0, 1) := by decide +kernel
theorem dX0_goesTo_26 : decode cX0_goesTo 26 = .ok (.getfield 55, 3) := by decide +kernel
theorem dX0_goesTo_29 : decode cX0_goesTo 29 = .ok (.if_icmp .ge 33, 3) := by decide +kernel
theorem dX0_goesTo_32 : decode cX0_goesTo 32 = .ok (.aload_n 0, 1) := by decide +kernel
theorem dX0_goesTo_33 : decode cX0_goesTo 33 = .ok (.iload_n 1, 1) := by decide +kernel
theorem dX0_goesTo_34 : decode cX0_goesTo 34 = .ok (.invokevirtual 112, 3) := by decide +kernel
theorem dX0_goesTo_37 : decode cX0_goesTo 37 = .ok (.istore_n 2, 1) := by decide +kernel
theorem dX0_goesTo_38 : decode cX0_goesTo 38 = .ok (.aload_n 0, 1) := by decide +kernel
theorem dX0_goesTo_39 : decode cX0_goesTo 39 = .ok (.iload_n 1, 1) := by decide +kernel
theorem dX0_goesTo_40 : decode cX0_goesTo 40 = .ok (.iload_n 2, 1) := by decide +kernel
theorem dX0_goesTo_41 : decode cX0_goesTo 41 = .ok (.invokevirtual 115, 3) := by decide +kernel
theorem dX0_goesTo_44 : decode cX0_goesTo 44 = .ok (.istore_n 3, 1) := by decide +kernel
theorem dX0_goesTo_45 : decode cX0_goesTo 45 = .ok (.aload_n 0, 1) := by decide +kernel
theorem dX0_goesTo_46 : decode cX0_goesTo 46 = .ok (.aload_n 0, 1) := by decide +kernel
theorem dX0_goesTo_47 : decode cX0_goesTo 47 = .ok (.iload_n 2, 1) := by decide +kernel
theorem dX0_goesTo_48 : decode cX0_goesTo 48 = .ok (.iload_n 3, 1) := by decide +kernel
theorem dX0_goesTo_49 : decode cX0_goesTo 49 = .ok (.invokevirtual 118, 3) := by decide +kernel
theorem dX0_goesTo_52 : decode cX0_goesTo 52 = .ok (.iload_n 3, 1) := by decide +kernel
theorem dX0_goesTo_53 : decode cX0_goesTo 53 = .ok (.invokevirtual 108, 3) := by decide +kernel
theorem dX0_goesTo_56 : decode cX0_goesTo 56 = .ok (.iinc 1 1, 3) := by decide +kernel
theorem dX0_goesTo_59 : decode cX0_goesTo 59 = .ok (.goto (-35), 3) := by decide +kernel
theorem dX0_goesTo_62 : decode cX0_goesTo 62 = .ok (.aload_n 0, 1) := by decide +kernel
theorem dX0_goesTo_63 : decode cX0_goesTo 63 = .ok (.getfield 96, 3) := by decide +kernel
theorem dX0_goesTo_66 : decode cX0_goesTo 66 = .ok (.invokestatic 76, 3) := by decide +kernel
theorem dX0_goesTo_69 : decode cX0_goesTo 69 = .ok (.istore_n 1, 1) := by decide +kernel
theorem dX0_goesTo_70 : decode cX0_goesTo 70 = .ok (.aload_n 0, 1) := by decide +kernel
theorem dX0_goesTo_71 : decode cX0_goesTo 71 = .ok (.getfield 102, 3) := by decide +kernel
theorem dX0_goesTo_74 : decode cX0_goesTo 74 = .ok (.invokestatic 76, 3) := by decide +kernel
theorem dX0_goesTo_77 : decode cX0_goesTo 77 = .ok (.istore_n 2, 1) := by decide +kernel
theorem dX0_goesTo_78 : decode cX0_goesTo 78 = .ok (.iload_n 1, 1) := by decide +kernel
theorem dX0_goesTo_79 : decode cX0_goesTo 79 = .ok (.aload_n 0, 1) := by decide +kernel
theorem dX0_goesTo_80 : decode cX0_goesTo 80 = .ok (.getfield 40, 3) := by decide +kernel
theorem dX0_goesTo_83 : decode cX0_goesTo 83 = .ok (.if_icmp .gt 13, 3) := by decide +kernel
theorem dX0_goesTo_86 : decode cX0_goesTo 86 = .ok (.iload_n 2, 1) := by decide +kernel
theorem dX0_goesTo_87 : decode cX0_goesTo 87 = .ok (.aload_n 0, 1) := by decide +kernel
theorem dX0_goesTo_88 : decode cX0_goesTo 88 = .ok (.getfield 40, 3) := by decide +kernel
theorem dX0_goesTo_91 : decode cX0_goesTo 91 = .ok (.if_icmp .gt 5, 3) := by decide +kernel
theorem dX0_goesTo_94 : decode cX0_goesTo 94 = .ok (.iconst 0, 1) := by decide +kernel
theorem dX0_goesTo_95 : decode cX0_goesTo 95 = .ok (.ireturn, 1) := by decide +kernel
theorem dX0_goesTo_96 : decode cX0_goesTo 96 = .ok (.aload_n 0, 1) := by decide +kernel
theorem dX0_goesTo_97 : decode cX0_goesTo 97 = .ok (.getfield 102, 3) := by decide +kernel
theorem dX0_goesTo_100 : decode cX0_goesTo 100 = .ok (.ifCond .le 7, 3) := by decide +kernel
theorem dX0_goesTo_103 : decode cX0_goesTo 103 = .ok (.iconst 3, 1) := by decide +kernel
theorem dX0_goesTo_104 : decode cX0_goesTo 104 = .ok (.goto 4, 3) := by decide +kernel
theorem dX0_goesTo_107 : decode cX0_goesTo 107 = .ok (.iconst 1, 1) := by decide +kernel
theorem dX0_goesTo_108 : decode cX0_goesTo 108 = .ok (.istore_n 3, 1) := by decide +kernel
theorem dX0_goesTo_109 : decode cX0_goesTo 109 = .ok (.iload_n 1, 1) := by decide +kernel
theorem dX0_goesTo_110 : decode cX0_goesTo 110 = .ok (.iload_n 2, 1) := by decide +kernel
theorem dX0_goesTo_111 : decode cX0_goesTo 111 = .ok (.if_icmp .lt 16, 3) := by decide +kernel
theorem dX0_goesTo_114 : decode cX0_goesTo 114 = .ok (.aload_n 0, 1) := by decide +kernel
theorem dX0_goesTo_115 : decode cX0_goesTo 115 = .ok (.getfield 96, 3) := by decide +kernel
theorem dX0_goesTo_118 : decode cX0_goesTo 118 = .ok (.ifCond .le 7, 3) := by decide +kernel
theorem dX0_goesTo_121 : decode cX0_goesTo 121 = .ok (.iconst 2, 1) := by decide +kernel
theorem dX0_goesTo_122 : decode cX0_goesTo 122 = .ok (.goto 4, 3) := by decide +kernel
theorem dX0_goesTo_125 : decode cX0_goesTo 125 = .ok (.iconst 4, 1) := by decide +kernel
theorem dX0_goesTo_126 : decode cX0_goesTo 126 = .ok (.istore_n 3, 1) := by decide +kernel
theorem dX0_goesTo_127 : decode cX0_goesTo 127 = .ok (.aload_n 0, 1) := by decide +kernel
theorem dX0_goesTo_128 : decode cX0_goesTo 128 = .ok (.getfield 33, 3) := by decide +kernel
theorem dX0_goesTo_131 : decode cX0_goesTo 131 = .ok (.getstatic 99, 3) := by decide +kernel
theorem dX0_goesTo_134 : decode cX0_goesTo 134 = .ok (.iload_n 3, 1) := by decide +kernel
theorem dX0_goesTo_135 : decode cX0_goesTo 135 = .ok (.invokestatic 72, 3) := by decide +kernel
theorem dX0_goesTo_138 : decode cX0_goesTo 138 = .ok (.iadd, 1) := by decide +kernel
theorem dX0_goesTo_139 : decode cX0_goesTo 139 = .ok (.aload_n 0, 1) := by decide +kernel
theorem dX0_goesTo_140 : decode cX0_goesTo 140 = .ok (.getfield 37, 3) := by decide +kernel
theorem dX0_goesTo_143 : decode cX0_goesTo 143 = .ok (.getstatic 105, 3) := by decide +kernel
theorem dX0_goesTo_146 : decode cX0_goesTo 146 = .ok (.iload_n 3, 1) := by decide +kernel
theorem dX0_goesTo_147 : decode cX0_goesTo 147 = .ok (.invokestatic 72, 3) := by decide +kernel
theorem dX0_goesTo_150 : decode cX0_goesTo 150 = .ok (.iadd, 1) := by decide +kernel
theorem dX0_goesTo_151 : decode cX0_goesTo 151 = .ok (.invokestatic 121, 3) := by decide +kernel
theorem dX0_goesTo_154 : decode cX0_goesTo 154 = .ok (.ifCond .eq 7, 3) := by decide +kernel
theorem dX0_goesTo_157 : decode cX0_goesTo 157 = .ok (.iload_n 3, 1) := by decide +kernel
theorem dX0_goesTo_158 : decode cX0_goesTo 158 = .ok (.goto 4, 3) := by decide +kernel
theorem dX0_goesTo_161 : decode cX0_goesTo 161 = .ok (.iconst 0, 1) := by decide +kernel
theorem dX0_goesTo_162 : decode cX0_goesTo 162 = .ok (.ireturn, 1) := by decide +kernel
theorem dX0_goHours_0 : decode cX0_goHours 0 = .ok (.iconst 0, 1) := by decide +kernel
theorem dX0_goHours_1 : decode cX0_goHours 1 = .ok (.istore_n 2, 1) := by decide +kernel
theorem dX0_goHours_2 : decode cX0_goHours 2 = .ok (.iconst 0, 1) := by decide +kernel
theorem dX0_goHours_3 : decode cX0_goHours 3 = .ok (.istore_n 3, 1) := by decide +kernel
theorem dX0_goHours_4 : decode cX0_goHours 4 = .ok (.iload_n 3, 1) := by decide +kernel
theorem dX0_goHours_5 : decode cX0_goHours 5 = .ok (.iload_n 1, 1) := by decide +kernel
theorem dX0_goHours_6 : decode cX0_goHours 6 = .ok (.if_icmp .ge 72, 3) := by decide +kernel
theorem dX0_goHours_9 : decode cX0_goHours 9 = .ok (.aload_n 0, 1) := by decide +kernel
theorem dX0_goHours_10 : decode cX0_goHours 10 = .ok (.invokevirtual 125, 3) := by decide +kernel
theorem dX0_goHours_13 : decode cX0_goHours 13 = .ok (.istore 4, 2) := by decide +kernel
theorem dX0_goHours_15 : decode cX0_goHours 15 = .ok (.iload_n 2, 1) := by decide +kernel
theorem dX0_goHours_16 : decode cX0_goHours 16 = .ok (.iload 4, 2) := by decide +kernel
theorem dX0_goHours_18 : decode cX0_goHours 18 = .ok (.ifCond .ne 7, 3) := by decide +kernel
theorem dX0_goHours_21 : decode cX0_goHours 21 = .ok (.iconst 1, 1) := by decide +kernel
theorem dX0_goHours_22 : decode cX0_goHours 22 = .ok (.goto 4, 3) := by decide +kernel
theorem dX0_goHours_25 : decode cX0_goHours 25 = .ok (.iconst 0, 1) := by decide +kernel
theorem dX0_goHours_26 : decode cX0_goHours 26 = .ok (.iadd, 1) := by decide +kernel
theorem dX0_goHours_27 : decode cX0_goHours 27 = .ok (.istore_n 2, 1) := by decide +kernel
theorem dX0_goHours_28 : decode cX0_goHours 28 = .ok (.aload_n 0, 1) := by decide +kernel
theorem dX0_goHours_29 : decode cX0_goHours 29 = .ok (.dup, 1) := by decide +kernel
theorem dX0_goHours_30 : decode cX0_goHours 30 = .ok (.getfield 33, 3) := by decide +kernel
theorem dX0_goHours_33 : decode cX0_goHours 33 = .ok (.getstatic 99, 3) := by decide +kernel
theorem dX0_goHours_36 : decode cX0_goHours 36 = .ok (.iload 4, 2) := by decide +kernel
theorem dX0_goHours_38 : decode cX0_goHours 38 = .ok (.invokestatic 72, 3) := by decide +kernel
theorem dX0_goHours_41 : decode cX0_goHours 41 = .ok (.iadd, 1) := by decide +kernel
theorem dX0_goHours_42 : decode cX0_goHours 42 = .ok (.putfield 33, 3) := by decide +kernel
theorem dX0_goHours_45 : decode cX0_goHours 45 = .ok (.aload_n 0, 1) := by decide +kernel
theorem dX0_goHours_46 : decode cX0_goHours 46 = .ok (.dup, 1) := by decide +kernel
theorem dX0_goHours_47 : decode cX0_goHours 47 = .ok (.getfield 37, 3) := by decide +kernel
theorem dX0_goHours_50 : decode cX0_goHours 50 = .ok (.getstatic 105, 3) := by decide +kernel
theorem dX0_goHours_53 : decode cX0_goHours 53 = .ok (.iload 4, 2) := by decide +kernel
theorem dX0_goHours_55 : decode cX0_goHours 55 = .ok (.invokestatic 72, 3) := by decide +kernel
theorem dX0_goHours_58 : decode cX0_goHours 58 = .ok (.iadd, 1) := by decide +kernel
theorem dX0_goHours_59 : decode cX0_goHours 59 = .ok (.putfield 37, 3) := by decide +kernel
theorem dX0_goHours_62 : decode cX0_goHours 62 = .ok (.aload_n 0, 1) := by decide +kernel
theorem dX0_goHours_63 : decode cX0_goHours 63 = .ok (.dup, 1) := by decide +kernel
theorem dX0_goHours_64 : decode cX0_goHours 64 = .ok (.getfield 49, 3) := by decide +kernel
theorem dX0_goHours_67 : decode cX0_goHours 67 = .ok (.iconst 1, 1) := by decide +kernel
theorem dX0_goHours_68 : decode cX0_goHours 68 = .ok (.iadd, 1) := by decide +kernel
theorem dX0_goHours_69 : decode cX0_goHours 69 = .ok (.putfield 49, 3) := by decide +kernel
theorem dX0_goHours_72 : decode cX0_goHours 72 = .ok (.iinc 3 1, 3) := by decide +kernel
theorem dX0_goHours_75 : decode cX0_goHours 75 = .ok (.goto (-71), 3) := by decide +kernel
theorem dX0_goHours_78 : decode cX0_goHours 78 = .ok (.iload_n 2, 1) := by decide +kernel
theorem dX0_goHours_79 : decode cX0_goHours 79 = .ok (.ireturn, 1) := by decide +kernel
theorem dX0_hoursTo_0 : decode cX0_hoursTo 0 = .ok (.aload_n 0, 1) := by decide +kernel
theorem dX0_hoursTo_1 : decode cX0_hoursTo 1 = .ok (.getfield 33, 3) := by decide +kernel
theorem dX0_hoursTo_4 : decode cX0_hoursTo 4 = .ok (.istore 4, 2) := by decide +kernel
theorem dX0_hoursTo_6 : decode cX0_hoursTo 6 = .ok (.aload_n 0, 1) := by decide +kernel
theorem dX0_hoursTo_7 : decode cX0_hoursTo 7 = .ok (.getfield 37, 3) := by decide +kernel
theorem dX0_hoursTo_10 : decode cX0_hoursTo 10 = .ok (.istore 5, 2) := by decide +kernel
theorem dX0_hoursTo_12 : decode cX0_hoursTo 12 = .ok (.iconst 1, 1) := by decide +kernel
theorem dX0_hoursTo_13 : decode cX0_hoursTo 13 = .ok (.istore 6, 2) := by decide +kernel
theorem dX0_hoursTo_15 : decode cX0_hoursTo 15 = .ok (.iload 6, 2) := by decide +kernel
theorem dX0_hoursTo_17 : decode cX0_hoursTo 17 = .ok (.iload_n 3, 1) := by decide +kernel
theorem dX0_hoursTo_18 : decode cX0_hoursTo 18 = .ok (.if_icmp .gt 61, 3) := by decide +kernel
theorem dX0_hoursTo_21 : decode cX0_hoursTo 21 = .ok (.aload_n 0, 1) := by decide +kernel
theorem dX0_hoursTo_22 : decode cX0_hoursTo 22 = .ok (.iconst 1, 1) := by decide +kernel
theorem dX0_hoursTo_23 : decode cX0_hoursTo 23 = .ok (.invokevirtual 129, 3) := by decide +kernel
theorem dX0_hoursTo_26 : decode cX0_hoursTo 26 = .ok (.pop, 1) := by decide +kernel
theorem dX0_hoursTo_27 : decode cX0_hoursTo 27 = .ok (.aload_n 0, 1) := by decide +kernel
theorem dX0_hoursTo_28 : decode cX0_hoursTo 28 = .ok (.iload_n 1, 1) := by decide +kernel
theorem dX0_hoursTo_29 : decode cX0_hoursTo 29 = .ok (.iload_n 2, 1) := by decide +kernel
theorem dX0_hoursTo_30 : decode cX0_hoursTo 30 = .ok (.invokevirtual 132, 3) := by decide +kernel
theorem dX0_hoursTo_33 : decode cX0_hoursTo 33 = .ok (.ifCond .eq 6, 3) := by decide +kernel
theorem dX0_hoursTo_36 : decode cX0_hoursTo 36 = .ok (.iload 6, 2) := by decide +kernel
theorem dX0_hoursTo_38 : decode cX0_hoursTo 38 = .ok (.ireturn, 1) := by decide +kernel
theorem dX0_hoursTo_39 : decode cX0_hoursTo 39 = .ok (.aload_n 0, 1) := by decide +kernel
theorem dX0_hoursTo_40 : decode cX0_hoursTo 40 = .ok (.iload 4, 2) := by decide +kernel
theorem dX0_hoursTo_42 : decode cX0_hoursTo 42 = .ok (.iload 5, 2) := by decide +kernel
theorem dX0_hoursTo_44 : decode cX0_hoursTo 44 = .ok (.invokevirtual 132, 3) := by decide +kernel
theorem dX0_hoursTo_47 : decode cX0_hoursTo 47 = .ok (.ifCond .eq 5, 3) := by decide +kernel
theorem dX0_hoursTo_50 : decode cX0_hoursTo 50 = .ok (.iconst 0, 1) := by decide +kernel
theorem dX0_hoursTo_51 : decode cX0_hoursTo 51 = .ok (.ireturn, 1) := by decide +kernel
theorem dX0_hoursTo_52 : decode cX0_hoursTo 52 = .ok (.iload 6, 2) := by decide +kernel
theorem dX0_hoursTo_54 : decode cX0_hoursTo 54 = .ok (.invokestatic 135, 3) := by decide +kernel
theorem dX0_hoursTo_57 : decode cX0_hoursTo 57 = .ok (.iconst 1, 1) := by decide +kernel
theorem dX0_hoursTo_58 : decode cX0_hoursTo 58 = .ok (.if_icmp .ne 15, 3) := by decide +kernel
theorem dX0_hoursTo_61 : decode cX0_hoursTo 61 = .ok (.aload_n 0, 1) := by decide +kernel
theorem dX0_hoursTo_62 : decode cX0_hoursTo 62 = .ok (.getfield 33, 3) := by decide +kernel
theorem dX0_hoursTo_65 : decode cX0_hoursTo 65 = .ok (.istore 4, 2) := by decide +kernel
theorem dX0_hoursTo_67 : decode cX0_hoursTo 67 = .ok (.aload_n 0, 1) := by decide +kernel
theorem dX0_hoursTo_68 : decode cX0_hoursTo 68 = .ok (.getfield 37, 3) := by decide +kernel
theorem dX0_hoursTo_71 : decode cX0_hoursTo 71 = .ok (.istore 5, 2) := by decide +kernel
theorem dX0_hoursTo_73 : decode cX0_hoursTo 73 = .ok (.iinc 6 1, 3) := by decide +kernel
theorem dX0_hoursTo_76 : decode cX0_hoursTo 76 = .ok (.goto (-61), 3) := by decide +kernel
theorem dX0_hoursTo_79 : decode cX0_hoursTo 79 = .ok (.iconst 0, 1) := by decide +kernel
theorem dX0_hoursTo_80 : decode cX0_hoursTo 80 = .ok (.ireturn, 1) := by decide +kernel
theorem dX1_init_0 : decode cX1_init 0 = .ok (.aload_n 0, 1) := by decide +kernel
theorem dX1_init_1 : decode cX1_init 1 = .ok (.invokespecial 1, 3) := by decide +kernel
theorem dX1_init_4 : decode cX1_init 4 = .ok (.aload_n 0, 1) := by decide +kernel
theorem dX1_init_5 : decode cX1_init 5 = .ok (.iconst 1, 1) := by decide +kernel
theorem dX1_init_6 : decode cX1_init 6 = .ok (.iload_n 1, 1) := by decide +kernel
theorem dX1_init_7 : decode cX1_init 7 = .ok (.invokestatic 7, 3) := by decide +kernel
theorem dX1_init_10 : decode cX1_init 10 = .ok (.anewarray 13, 3) := by decide +kernel
theorem dX1_init_13 : decode cX1_init 13 = .ok (.putfield 15, 3) := by decide +kernel
theorem dX1_init_16 : decode cX1_init 16 = .ok (.iconst 0, 1) := by decide +kernel
theorem dX1_init_17 : decode cX1_init 17 = .ok (.istore_n 2, 1) := by decide +kernel
theorem dX1_init_18 : decode cX1_init 18 = .ok (.iload_n 2, 1) := by decide +kernel
theorem dX1_init_19 : decode cX1_init 19 = .ok (.aload_n 0, 1) := by decide +kernel
theorem dX1_init_20 : decode cX1_init 20 = .ok (.getfield 15, 3) := by decide +kernel
theorem dX1_init_23 : decode cX1_init 23 = .ok (.arraylength, 1) := by decide +kernel
theorem dX1_init_24 : decode cX1_init 24 = .ok (.if_icmp .ge 22, 3) := by decide +kernel
theorem dX1_init_27 : decode cX1_init 27 = .ok (.aload_n 0, 1) := by decide +kernel
theorem dX1_init_28 : decode cX1_init 28 = .ok (.getfield 15, 3) := by decide +kernel
theorem dX1_init_31 : decode cX1_init 31 = .ok (.iload_n 2, 1) := by decide +kernel
theorem dX1_init_32 : decode cX1_init 32 = .ok (.new 13, 3) := by decide +kernel
theorem dX1_init_35 : decode cX1_init 35 = .ok (.dup, 1) := by decide +kernel
theorem dX1_init_36 : decode cX1_init 36 = .ok (.invokespecial 21, 3) := by decide +kernel
theorem dX1_init_39 : decode cX1_init 39 = .ok (.aastore, 1) := by decide +kernel
theorem dX1_init_40 : decode cX1_init 40 = .ok (.iinc 2 1, 3) := by decide +kernel
theorem dX1_init_43 : decode cX1_init 43 = .ok (.goto (-25), 3) := by decide +kernel
theorem dX1_init_46 : decode cX1_init 46 = .ok (.return_, 1) := by decide +kernel
theorem dX1_topField_0 : decode cX1_topField 0 = .ok (.aload_n 0, 1) := by decide +kernel
theorem dX1_topField_1 : decode cX1_topField 1 = .ok (.getfield 22, 3) := by decide +kernel
theorem dX1_topField_4 : decode cX1_topField 4 = .ok (.ifCond .lt 27, 3) := by decide +kernel
theorem dX1_topField_7 : decode cX1_topField 7 = .ok (.aload_n 0, 1) := by decide +kernel
theorem dX1_topField_8 : decode cX1_topField 8 = .ok (.getfield 22, 3) := by decide +kernel
theorem dX1_topField_11 : decode cX1_topField 11 = .ok (.aload_n 0, 1) := by decide +kernel
theorem dX1_topField_12 : decode cX1_topField 12 = .ok (.getfield 15, 3) := by decide +kernel
theorem dX1_topField_15 : decode cX1_topField 15 = .ok (.arraylength, 1) := by decide +kernel
theorem dX1_topField_16 : decode cX1_topField 16 = .ok (.if_icmp .ge 15, 3) := by decide +kernel
theorem dX1_topField_19 : decode cX1_topField 19 = .ok (.aload_n 0, 1) := by decide +kernel
theorem dX1_topField_20 : decode cX1_topField 20 = .ok (.getfield 15, 3) := by decide +kernel
theorem dX1_topField_23 : decode cX1_topField 23 = .ok (.aload_n 0, 1) := by decide +kernel
theorem dX1_topField_24 : decode cX1_topField 24 = .ok (.getfield 22, 3) := by decide +kernel
theorem dX1_topField_27 : decode cX1_topField 27 = .ok (.aaload, 1) := by decide +kernel
theorem dX1_topField_28 : decode cX1_topField 28 = .ok (.goto 4, 3) := by decide +kernel
theorem dX1_topField_31 : decode cX1_topField 31 = .ok (.aconst_null, 1) := by decide +kernel
theorem dX1_topField_32 : decode cX1_topField 32 = .ok (.areturn, 1) := by decide +kernel
theorem dX1_push_0 : decode cX1_push 0 = .ok (.aload_n 0, 1) := by decide +kernel
theorem dX1_push_1 : decode cX1_push 1 = .ok (.aload_n 0, 1) := by decide +kernel
theorem dX1_push_2 : decode cX1_push 2 = .ok (.getfield 22, 3) := by decide +kernel
theorem dX1_push_5 : decode cX1_push 5 = .ok (.iconst 1, 1) := by decide +kernel
theorem dX1_push_6 : decode cX1_push 6 = .ok (.iadd, 1) := by decide +kernel
theorem dX1_push_7 : decode cX1_push 7 = .ok (.aload_n 0, 1) := by decide +kernel
theorem dX1_push_8 : decode cX1_push 8 = .ok (.getfield 15, 3) := by decide +kernel
theorem dX1_push_11 : decode cX1_push 11 = .ok (.arraylength, 1) := by decide +kernel
theorem dX1_push_12 : decode cX1_push 12 = .ok (.if_icmp .ge 12, 3) := by decide +kernel
theorem dX1_push_15 : decode cX1_push 15 = .ok (.aload_n 0, 1) := by decide +kernel
theorem dX1_push_16 : decode cX1_push 16 = .ok (.getfield 22, 3) := by decide +kernel
theorem dX1_push_19 : decode cX1_push 19 = .ok (.iconst 1, 1) := by decide +kernel
theorem dX1_push_20 : decode cX1_push 20 = .ok (.iadd, 1) := by decide +kernel
theorem dX1_push_21 : decode cX1_push 21 = .ok (.goto 4, 3) := by decide +kernel
theorem dX1_push_24 : decode cX1_push 24 = .ok (.iconst 0, 1) := by decide +kernel
theorem dX1_push_25 : decode cX1_push 25 = .ok (.putfield 22, 3) := by decide +kernel
theorem dX1_push_28 : decode cX1_push 28 = .ok (.aload_n 0, 1) := by decide +kernel
theorem dX1_push_29 : decode cX1_push 29 = .ok (.invokevirtual 26, 3) := by decide +kernel
theorem dX1_push_32 : decode cX1_push 32 = .ok (.astore_n 2, 1) := by decide +kernel
theorem dX1_push_33 : decode cX1_push 33 = .ok (.aload_n 2, 1) := by decide +kernel
theorem dX1_push_34 : decode cX1_push 34 = .ok (.ifnull 26, 3) := by decide +kernel
theorem dX1_push_37 : decode cX1_push 37 = .ok (.aload_n 2, 1) := by decide +kernel
theorem dX1_push_38 : decode cX1_push 38 = .ok (.aload_n 1, 1) := by decide +kernel
theorem dX1_push_39 : decode cX1_push 39 = .ok (.invokevirtual 30, 3) := by decide +kernel
theorem dX1_push_42 : decode cX1_push 42 = .ok (.aload_n 0, 1) := by decide +kernel
theorem dX1_push_43 : decode cX1_push 43 = .ok (.aload_n 0, 1) := by decide +kernel
theorem dX1_push_44 : decode cX1_push 44 = .ok (.getfield 34, 3) := by decide +kernel
theorem dX1_push_47 : decode cX1_push 47 = .ok (.iconst 1, 1) := by decide +kernel
theorem dX1_push_48 : decode cX1_push 48 = .ok (.iadd, 1) := by decide +kernel
theorem dX1_push_49 : decode cX1_push 49 = .ok (.aload_n 0, 1) := by decide +kernel
theorem dX1_push_50 : decode cX1_push 50 = .ok (.getfield 15, 3) := by decide +kernel
theorem dX1_push_53 : decode cX1_push 53 = .ok (.arraylength, 1) := by decide +kernel
theorem dX1_push_54 : decode cX1_push 54 = .ok (.invokestatic 37, 3) := by decide +kernel
theorem dX1_push_57 : decode cX1_push 57 = .ok (.putfield 34, 3) := by decide +kernel
theorem dX1_push_60 : decode cX1_push 60 = .ok (.return_, 1) := by decide +kernel
theorem dX1_popInto_0 : decode cX1_popInto 0 = .ok (.aload_n 0, 1) := by decide +kernel
theorem dX1_popInto_1 : decode cX1_popInto 1 = .ok (.invokevirtual 26, 3) := by decide +kernel
theorem dX1_popInto_4 : decode cX1_popInto 4 = .ok (.astore_n 2, 1) := by decide +kernel
theorem dX1_popInto_5 : decode cX1_popInto 5 = .ok (.aload_n 0, 1) := by decide +kernel
theorem dX1_popInto_6 : decode cX1_popInto 6 = .ok (.getfield 34, 3) := by decide +kernel
theorem dX1_popInto_9 : decode cX1_popInto 9 = .ok (.ifCond .eq 7, 3) := by decide +kernel
theorem dX1_popInto_12 : decode cX1_popInto 12 = .ok (.aload_n 2, 1) := by decide +kernel
theorem dX1_popInto_13 : decode cX1_popInto 13 = .ok (.ifnonnull 5, 3) := by decide +kernel
theorem dX1_popInto_16 : decode cX1_popInto 16 = .ok (.iconst 0, 1) := by decide +kernel
theorem dX1_popInto_17 : decode cX1_popInto 17 = .ok (.ireturn, 1) := by decide +kernel
theorem dX1_popInto_18 : decode cX1_popInto 18 = .ok (.aload_n 1, 1) := by decide +kernel
theorem dX1_popInto_19 : decode cX1_popInto 19 = .ok (.aload_n 2, 1) := by decide +kernel
theorem dX1_popInto_20 : decode cX1_popInto 20 = .ok (.invokevirtual 30, 3) := by decide +kernel
theorem dX1_popInto_23 : decode cX1_popInto 23 = .ok (.aload_n 0, 1) := by decide +kernel
theorem dX1_popInto_24 : decode cX1_popInto 24 = .ok (.aload_n 0, 1) := by decide +kernel
theorem dX1_popInto_25 : decode cX1_popInto 25 = .ok (.getfield 22, 3) := by decide +kernel
theorem dX1_popInto_28 : decode cX1_popInto 28 = .ok (.ifCond .le 12, 3) := by decide +kernel
theorem dX1_popInto_31 : decode cX1_popInto 31 = .ok (.aload_n 0, 1) := by decide +kernel
theorem dX1_popInto_32 : decode cX1_popInto 32 = .ok (.getfield 22, 3) := by decide +kernel
theorem dX1_popInto_35 : decode cX1_popInto 35 = .ok (.iconst 1, 1) := by decide +kernel
theorem dX1_popInto_36 : decode cX1_popInto 36 = .ok (.isub, 1) := by decide +kernel
theorem dX1_popInto_37 : decode cX1_popInto 37 = .ok (.goto 10, 3) := by decide +kernel
theorem dX1_popInto_40 : decode cX1_popInto 40 = .ok (.aload_n 0, 1) := by decide +kernel
theorem dX1_popInto_41 : decode cX1_popInto 41 = .ok (.getfield 15, 3) := by decide +kernel
theorem dX1_popInto_44 : decode cX1_popInto 44 = .ok (.arraylength, 1) := by decide +kernel
theorem dX1_popInto_45 : decode cX1_popInto 45 = .ok (.iconst 1, 1) := by decide +kernel
theorem dX1_popInto_46 : decode cX1_popInto 46 = .ok (.isub, 1) := by decide +kernel
theorem dX1_popInto_47 : decode cX1_popInto 47 = .ok (.putfield 22, 3) := by decide +kernel
theorem dX1_popInto_50 : decode cX1_popInto 50 = .ok (.aload_n 0, 1) := by decide +kernel
theorem dX1_popInto_51 : decode cX1_popInto 51 = .ok (.dup, 1) := by decide +kernel
theorem dX1_popInto_52 : decode cX1_popInto 52 = .ok (.getfield 34, 3) := by decide +kernel
theorem dX1_popInto_55 : decode cX1_popInto 55 = .ok (.iconst 1, 1) := by decide +kernel
theorem dX1_popInto_56 : decode cX1_popInto 56 = .ok (.isub, 1) := by decide +kernel
theorem dX1_popInto_57 : decode cX1_popInto 57 = .ok (.putfield 34, 3) := by decide +kernel
theorem dX1_popInto_60 : decode cX1_popInto 60 = .ok (.iconst 1, 1) := by decide +kernel
theorem dX1_popInto_61 : decode cX1_popInto 61 = .ok (.ireturn, 1) := by decide +kernel
theorem dX2_at_0 : decode cX2_at 0 = .ok (.iload_n 1, 1) := by decide +kernel
theorem dX2_at_1 : decode cX2_at 1 = .ok (.ifCond .lt 15, 3) := by decide +kernel
theorem dX2_at_4 : decode cX2_at 4 = .ok (.iload_n 1, 1) := by decide +kernel
theorem dX2_at_5 : decode cX2_at 5 = .ok (.aload_n 0, 1) := by decide +kernel
theorem dX2_at_6 : decode cX2_at 6 = .ok (.arraylength, 1) := by decide +kernel
theorem dX2_at_7 : decode cX2_at 7 = .ok (.if_icmp .ge 9, 3) := by decide +kernel
theorem dX2_at_10 : decode cX2_at 10 = .ok (.aload_n 0, 1) := by decide +kernel
theorem dX2_at_11 : decode cX2_at 11 = .ok (.iload_n 1, 1) := by decide +kernel
theorem dX2_at_12 : decode cX2_at 12 = .ok (.iaload, 1) := by decide +kernel
theorem dX2_at_13 : decode cX2_at 13 = .ok (.goto 4, 3) := by decide +kernel
theorem dX2_at_16 : decode cX2_at 16 = .ok (.iconst 0, 1) := by decide +kernel
theorem dX2_at_17 : decode cX2_at 17 = .ok (.ireturn, 1) := by decide +kernel
theorem dX2_set_0 : decode cX2_set 0 = .ok (.iload_n 1, 1) := by decide +kernel
theorem dX2_set_1 : decode cX2_set 1 = .ok (.ifCond .lt 13, 3) := by decide +kernel
theorem dX2_set_4 : decode cX2_set 4 = .ok (.iload_n 1, 1) := by decide +kernel
theorem dX2_set_5 : decode cX2_set 5 = .ok (.aload_n 0, 1) := by decide +kernel
theorem dX2_set_6 : decode cX2_set 6 = .ok (.arraylength, 1) := by decide +kernel
theorem dX2_set_7 : decode cX2_set 7 = .ok (.if_icmp .ge 7, 3) := by decide +kernel
theorem dX2_set_10 : decode cX2_set 10 = .ok (.aload_n 0, 1) := by decide +kernel
theorem dX2_set_11 : decode cX2_set 11 = .ok (.iload_n 1, 1) := by decide +kernel
theorem dX2_set_12 : decode cX2_set 12 = .ok (.iload_n 2, 1) := by decide +kernel
theorem dX2_set_13 : decode cX2_set 13 = .ok (.iastore, 1) := by decide +kernel
theorem dX2_set_14 : decode cX2_set 14 = .ok (.return_, 1) := by decide +kernel
theorem dX2_copy_0 : decode cX2_copy 0 = .ok (.aload_n 0, 1) := by decide +kernel
theorem dX2_copy_1 : decode cX2_copy 1 = .ok (.iconst 0, 1) := by decide +kernel
theorem dX2_copy_2 : decode cX2_copy 2 = .ok (.aload_n 1, 1) := by decide +kernel
theorem dX2_copy_3 : decode cX2_copy 3 = .ok (.iconst 0, 1) := by decide +kernel
theorem dX2_copy_4 : decode cX2_copy 4 = .ok (.aload_n 0, 1) := by decide +kernel
theorem dX2_copy_5 : decode cX2_copy 5 = .ok (.arraylength, 1) := by decide +kernel
theorem dX2_copy_6 : decode cX2_copy 6 = .ok (.aload_n 1, 1) := by decide +kernel
theorem dX2_copy_7 : decode cX2_copy 7 = .ok (.arraylength, 1) := by decide +kernel
theorem dX2_copy_8 : decode cX2_copy 8 = .ok (.invokestatic 7, 3) := by decide +kernel
theorem dX2_copy_11 : decode cX2_copy 11 = .ok (.invokestatic 13, 3) := by decide +kernel
theorem dX2_copy_14 : decode cX2_copy 14 = .ok (.return_, 1) := by decide +kernel
theorem dX3_init_0 : decode cX3_init 0 = .ok (.aload_n 0, 1) := by decide +kernel
theorem dX3_init_1 : decode cX3_init 1 = .ok (.invokespecial 3, 3) := by decide +kernel
theorem dX3_init_4 : decode cX3_init 4 = .ok (.aload_n 0, 1) := by decide +kernel
theorem dX3_init_5 : decode cX3_init 5 = .ok (.bipush 6, 2) := by decide +kernel
theorem dX3_init_7 : decode cX3_init 7 = .ok (.newarray .int, 2) := by decide +kernel
theorem dX3_init_9 : decode cX3_init 9 = .ok (.putfield 9, 3) := by decide +kernel
theorem dX3_init_12 : decode cX3_init 12 = .ok (.aload_n 0, 1) := by decide +kernel
theorem dX3_init_13 : decode cX3_init 13 = .ok (.bipush 6, 2) := by decide +kernel
theorem dX3_init_15 : decode cX3_init 15 = .ok (.newarray .int, 2) := by decide +kernel
theorem dX3_init_17 : decode cX3_init 17 = .ok (.putfield 15, 3) := by decide +kernel
theorem dX3_init_20 : decode cX3_init 20 = .ok (.aload_n 0, 1) := by decide +kernel
theorem dX3_init_21 : decode cX3_init 21 = .ok (.bipush 6, 2) := by decide +kernel
theorem dX3_init_23 : decode cX3_init 23 = .ok (.newarray .int, 2) := by decide +kernel
theorem dX3_init_25 : decode cX3_init 25 = .ok (.putfield 18, 3) := by decide +kernel
theorem dX3_init_28 : decode cX3_init 28 = .ok (.return_, 1) := by decide +kernel
theorem dX3_addSighting_0 : decode cX3_addSighting 0 = .ok (.aload_n 0, 1) := by decide +kernel
theorem dX3_addSighting_1 : decode cX3_addSighting 1 = .ok (.getfield 21, 3) := by decide +kernel
theorem dX3_addSighting_4 : decode cX3_addSighting 4 = .ok (.bipush 6, 2) := by decide +kernel
theorem dX3_addSighting_6 : decode cX3_addSighting 6 = .ok (.if_icmp .lt 5, 3) := by decide +kernel
theorem dX3_addSighting_9 : decode cX3_addSighting 9 = .ok (.iconst 0, 1) := by decide +kernel
theorem dX3_addSighting_10 : decode cX3_addSighting 10 = .ok (.ireturn, 1) := by decide +kernel
theorem dX3_addSighting_11 : decode cX3_addSighting 11 = .ok (.aload_n 0, 1) := by decide +kernel
theorem dX3_addSighting_12 : decode cX3_addSighting 12 = .ok (.getfield 9, 3) := by decide +kernel
theorem dX3_addSighting_15 : decode cX3_addSighting 15 = .ok (.aload_n 0, 1) := by decide +kernel
theorem dX3_addSighting_16 : decode cX3_addSighting 16 = .ok (.getfield 21, 3) := by decide +kernel
theorem dX3_addSighting_19 : decode cX3_addSighting 19 = .ok (.iload_n 1, 1) := by decide +kernel
theorem dX3_addSighting_20 : decode cX3_addSighting 20 = .ok (.invokestatic 25, 3) := by decide +kernel
theorem dX3_addSighting_23 : decode cX3_addSighting 23 = .ok (.aload_n 0, 1) := by decide +kernel
theorem dX3_addSighting_24 : decode cX3_addSighting 24 = .ok (.getfield 15, 3) := by decide +kernel
theorem dX3_addSighting_27 : decode cX3_addSighting 27 = .ok (.aload_n 0, 1) := by decide +kernel
theorem dX3_addSighting_28 : decode cX3_addSighting 28 = .ok (.getfield 21, 3) := by decide +kernel
theorem dX3_addSighting_31 : decode cX3_addSighting 31 = .ok (.iload_n 2, 1) := by decide +kernel
theorem dX3_addSighting_32 : decode cX3_addSighting 32 = .ok (.invokestatic 25, 3) := by decide +kernel
theorem dX3_addSighting_35 : decode cX3_addSighting 35 = .ok (.aload_n 0, 1) := by decide +kernel
theorem dX3_addSighting_36 : decode cX3_addSighting 36 = .ok (.getfield 18, 3) := by decide +kernel
theorem dX3_addSighting_39 : decode cX3_addSighting 39 = .ok (.aload_n 0, 1) := by decide +kernel
theorem dX3_addSighting_40 : decode cX3_addSighting 40 = .ok (.getfield 21, 3) := by decide +kernel
theorem dX3_addSighting_43 : decode cX3_addSighting 43 = .ok (.iload_n 3, 1) := by decide +kernel
theorem dX3_addSighting_44 : decode cX3_addSighting 44 = .ok (.invokestatic 25, 3) := by decide +kernel
theorem dX3_addSighting_47 : decode cX3_addSighting 47 = .ok (.aload_n 0, 1) := by decide +kernel
theorem dX3_addSighting_48 : decode cX3_addSighting 48 = .ok (.dup, 1) := by decide +kernel
theorem dX3_addSighting_49 : decode cX3_addSighting 49 = .ok (.getfield 21, 3) := by decide +kernel
theorem dX3_addSighting_52 : decode cX3_addSighting 52 = .ok (.iconst 1, 1) := by decide +kernel
theorem dX3_addSighting_53 : decode cX3_addSighting 53 = .ok (.iadd, 1) := by decide +kernel
theorem dX3_addSighting_54 : decode cX3_addSighting 54 = .ok (.putfield 21, 3) := by decide +kernel
theorem dX3_addSighting_57 : decode cX3_addSighting 57 = .ok (.iconst 1, 1) := by decide +kernel
theorem dX3_addSighting_58 : decode cX3_addSighting 58 = .ok (.ireturn, 1) := by decide +kernel
theorem dX3_areSoIn_0 : decode cX3_areSoIn 0 = .ok (.iconst 0, 1) := by decide +kernel
theorem dX3_areSoIn_1 : decode cX3_areSoIn 1 = .ok (.istore_n 2, 1) := by decide +kernel
theorem dX3_areSoIn_2 : decode cX3_areSoIn 2 = .ok (.iload_n 2, 1) := by decide +kernel
theorem dX3_areSoIn_3 : decode cX3_areSoIn 3 = .ok (.aload_n 0, 1) := by decide +kernel
theorem dX3_areSoIn_4 : decode cX3_areSoIn 4 = .ok (.getfield 21, 3) := by decide +kernel
theorem dX3_areSoIn_7 : decode cX3_areSoIn 7 = .ok (.if_icmp .ge 46, 3) := by decide +kernel
theorem dX3_areSoIn_10 : decode cX3_areSoIn 10 = .ok (.aload_n 1, 1) := by decide +kernel
theorem dX3_areSoIn_11 : decode cX3_areSoIn 11 = .ok (.aload_n 0, 1) := by decide +kernel
theorem dX3_areSoIn_12 : decode cX3_areSoIn 12 = .ok (.getfield 9, 3) := by decide +kernel
theorem dX3_areSoIn_15 : decode cX3_areSoIn 15 = .ok (.iload_n 2, 1) := by decide +kernel
theorem dX3_areSoIn_16 : decode cX3_areSoIn 16 = .ok (.invokestatic 31, 3) := by decide +kernel
theorem dX3_areSoIn_19 : decode cX3_areSoIn 19 = .ok (.aload_n 0, 1) := by decide +kernel
theorem dX3_areSoIn_20 : decode cX3_areSoIn 20 = .ok (.getfield 15, 3) := by decide +kernel
theorem dX3_areSoIn_23 : decode cX3_areSoIn 23 = .ok (.iload_n 2, 1) := by decide +kernel
theorem dX3_areSoIn_24 : decode cX3_areSoIn 24 = .ok (.invokestatic 31, 3) := by decide +kernel
theorem dX3_areSoIn_27 : decode cX3_areSoIn 27 = .ok (.invokevirtual 35, 3) := by decide +kernel
theorem dX3_areSoIn_30 : decode cX3_areSoIn 30 = .ok (.aload_n 1, 1) := by decide +kernel
theorem dX3_areSoIn_31 : decode cX3_areSoIn 31 = .ok (.invokevirtual 41, 3) := by decide +kernel
theorem dX3_areSoIn_34 : decode cX3_areSoIn 34 = .ok (.aload_n 0, 1) := by decide +kernel
theorem dX3_areSoIn_35 : decode cX3_areSoIn 35 = .ok (.getfield 18, 3) := by decide +kernel
theorem dX3_areSoIn_38 : decode cX3_areSoIn 38 = .ok (.iload_n 2, 1) := by decide +kernel
theorem dX3_areSoIn_39 : decode cX3_areSoIn 39 = .ok (.invokestatic 31, 3) := by decide +kernel
theorem dX3_areSoIn_42 : decode cX3_areSoIn 42 = .ok (.if_icmp .eq 5, 3) := by decide +kernel
theorem dX3_areSoIn_45 : decode cX3_areSoIn 45 = .ok (.iconst 0, 1) := by decide +kernel
theorem dX3_areSoIn_46 : decode cX3_areSoIn 46 = .ok (.ireturn, 1) := by decide +kernel
theorem dX3_areSoIn_47 : decode cX3_areSoIn 47 = .ok (.iinc 2 1, 3) := by decide +kernel
theorem dX3_areSoIn_50 : decode cX3_areSoIn 50 = .ok (.goto (-48), 3) := by decide +kernel
theorem dX3_areSoIn_53 : decode cX3_areSoIn 53 = .ok (.iconst 1, 1) := by decide +kernel
theorem dX3_areSoIn_54 : decode cX3_areSoIn 54 = .ok (.ireturn, 1) := by decide +kernel
theorem dX4_init_0 : decode cX4_init 0 = .ok (.aload_n 0, 1) := by decide +kernel
theorem dX4_init_1 : decode cX4_init 1 = .ok (.invokespecial 3, 3) := by decide +kernel
theorem dX4_init_4 : decode cX4_init 4 = .ok (.aload_n 0, 1) := by decide +kernel
theorem dX4_init_5 : decode cX4_init 5 = .ok (.sipush 200, 3) := by decide +kernel
theorem dX4_init_8 : decode cX4_init 8 = .ok (.newarray .int, 2) := by decide +kernel
theorem dX4_init_10 : decode cX4_init 10 = .ok (.putfield 9, 3) := by decide +kernel
theorem dX4_init_13 : decode cX4_init 13 = .ok (.aload_n 0, 1) := by decide +kernel
theorem dX4_init_14 : decode cX4_init 14 = .ok (.iconst 3, 1) := by decide +kernel
theorem dX4_init_15 : decode cX4_init 15 = .ok (.newarray .int, 2) := by decide +kernel
theorem dX4_init_17 : decode cX4_init 17 = .ok (.putfield 15, 3) := by decide +kernel
theorem dX4_init_20 : decode cX4_init 20 = .ok (.return_, 1) := by decide +kernel
theorem dX4_addLetter_0 : decode cX4_addLetter 0 = .ok (.aload_n 0, 1) := by decide +kernel
theorem dX4_addLetter_1 : decode cX4_addLetter 1 = .ok (.getfield 18, 3) := by decide +kernel
theorem dX4_addLetter_4 : decode cX4_addLetter 4 = .ok (.aload_n 0, 1) := by decide +kernel
theorem dX4_addLetter_5 : decode cX4_addLetter 5 = .ok (.getfield 9, 3) := by decide +kernel
theorem dX4_addLetter_8 : decode cX4_addLetter 8 = .ok (.arraylength, 1) := by decide +kernel
theorem dX4_addLetter_9 : decode cX4_addLetter 9 = .ok (.if_icmp .lt 5, 3) := by decide +kernel
theorem dX4_addLetter_12 : decode cX4_addLetter 12 = .ok (.iconst 0, 1) := by decide +kernel
theorem dX4_addLetter_13 : decode cX4_addLetter 13 = .ok (.ireturn, 1) := by decide +kernel
theorem dX4_addLetter_14 : decode cX4_addLetter 14 = .ok (.aload_n 0, 1) := by decide +kernel
theorem dX4_addLetter_15 : decode cX4_addLetter 15 = .ok (.getfield 9, 3) := by decide +kernel
theorem dX4_addLetter_18 : decode cX4_addLetter 18 = .ok (.aload_n 0, 1) := by decide +kernel
theorem dX4_addLetter_19 : decode cX4_addLetter 19 = .ok (.getfield 18, 3) := by decide +kernel
theorem dX4_addLetter_22 : decode cX4_addLetter 22 = .ok (.iload_n 1, 1) := by decide +kernel
theorem dX4_addLetter_23 : decode cX4_addLetter 23 = .ok (.invokestatic 22, 3) := by decide +kernel
theorem dX4_addLetter_26 : decode cX4_addLetter 26 = .ok (.aload_n 0, 1) := by decide +kernel
theorem dX4_addLetter_27 : decode cX4_addLetter 27 = .ok (.dup, 1) := by decide +kernel
theorem dX4_addLetter_28 : decode cX4_addLetter 28 = .ok (.getfield 18, 3) := by decide +kernel
theorem dX4_addLetter_31 : decode cX4_addLetter 31 = .ok (.iconst 1, 1) := by decide +kernel
theorem dX4_addLetter_32 : decode cX4_addLetter 32 = .ok (.iadd, 1) := by decide +kernel
theorem dX4_addLetter_33 : decode cX4_addLetter 33 = .ok (.putfield 18, 3) := by decide +kernel
theorem dX4_addLetter_36 : decode cX4_addLetter 36 = .ok (.iconst 1, 1) := by decide +kernel
theorem dX4_addLetter_37 : decode cX4_addLetter 37 = .ok (.ireturn, 1) := by decide +kernel
theorem dX4_readInto_0 : decode cX4_readInto 0 = .ok (.aload_n 1, 1) := by decide +kernel
theorem dX4_readInto_1 : decode cX4_readInto 1 = .ok (.invokevirtual 28, 3) := by decide +kernel
theorem dX4_readInto_4 : decode cX4_readInto 4 = .ok (.aload_n 0, 1) := by decide +kernel
theorem dX4_readInto_5 : decode cX4_readInto 5 = .ok (.iconst 0, 1) := by decide +kernel
theorem dX4_readInto_6 : decode cX4_readInto 6 = .ok (.putfield 33, 3) := by decide +kernel
theorem dX4_readInto_9 : decode cX4_readInto 9 = .ok (.iconst 0, 1) := by decide +kernel
theorem dX4_readInto_10 : decode cX4_readInto 10 = .ok (.istore_n 2, 1) := by decide +kernel
theorem dX4_readInto_11 : decode cX4_readInto 11 = .ok (.iload_n 2, 1) := by decide +kernel
theorem dX4_readInto_12 : decode cX4_readInto 12 = .ok (.sipush 200, 3) := by decide +kernel
theorem dX4_readInto_15 : decode cX4_readInto 15 = .ok (.if_icmp .ge 35, 3) := by decide +kernel
theorem dX4_readInto_18 : decode cX4_readInto 18 = .ok (.aload_n 0, 1) := by decide +kernel
theorem dX4_readInto_19 : decode cX4_readInto 19 = .ok (.getfield 33, 3) := by decide +kernel
theorem dX4_readInto_22 : decode cX4_readInto 22 = .ok (.aload_n 0, 1) := by decide +kernel
theorem dX4_readInto_23 : decode cX4_readInto 23 = .ok (.getfield 18, 3) := by decide +kernel
theorem dX4_readInto_26 : decode cX4_readInto 26 = .ok (.if_icmp .ge 24, 3) := by decide +kernel
theorem dX4_readInto_29 : decode cX4_readInto 29 = .ok (.aload_n 0, 1) := by decide +kernel
theorem dX4_readInto_30 : decode cX4_readInto 30 = .ok (.getfield 33, 3) := by decide +kernel
theorem dX4_readInto_33 : decode cX4_readInto 33 = .ok (.istore_n 3, 1) := by decide +kernel
theorem dX4_readInto_34 : decode cX4_readInto 34 = .ok (.aload_n 0, 1) := by decide +kernel
theorem dX4_readInto_35 : decode cX4_readInto 35 = .ok (.aload_n 1, 1) := by decide +kernel
theorem dX4_readInto_36 : decode cX4_readInto 36 = .ok (.invokevirtual 36, 3) := by decide +kernel
theorem dX4_readInto_39 : decode cX4_readInto 39 = .ok (.ifCond .ne 5, 3) := by decide +kernel
theorem dX4_readInto_42 : decode cX4_readInto 42 = .ok (.iload_n 3, 1) := by decide +kernel
theorem dX4_readInto_43 : decode cX4_readInto 43 = .ok (.ireturn, 1) := by decide +kernel
theorem dX4_readInto_44 : decode cX4_readInto 44 = .ok (.iinc 2 1, 3) := by decide +kernel
theorem dX4_readInto_47 : decode cX4_readInto 47 = .ok (.goto (-36), 3) := by decide +kernel
theorem dX4_readInto_50 : decode cX4_readInto 50 = .ok (.bipush (-4), 2) := by decide +kernel
theorem dX4_readInto_52 : decode cX4_readInto 52 = .ok (.ireturn, 1) := by decide +kernel
theorem dX4_readItem_0 : decode cX4_readItem 0 = .ok (.aload_n 0, 1) := by decide +kernel
theorem dX4_readItem_1 : decode cX4_readItem 1 = .ok (.invokevirtual 40, 3) := by decide +kernel
theorem dX4_readItem_4 : decode cX4_readItem 4 = .ok (.istore_n 2, 1) := by decide +kernel
theorem dX4_readItem_5 : decode cX4_readItem 5 = .ok (.iload_n 2, 1) := by decide +kernel
theorem dX4_readItem_6 : decode cX4_readItem 6 = .ok (.bipush 119, 2) := by decide +kernel
theorem dX4_readItem_8 : decode cX4_readItem 8 = .ok (.if_icmp .ne 7, 3) := by decide +kernel
theorem dX4_readItem_11 : decode cX4_readItem 11 = .ok (.iconst 2, 1) := by decide +kernel
theorem dX4_readItem_12 : decode cX4_readItem 12 = .ok (.goto 4, 3) := by decide +kernel
theorem dX4_readItem_15 : decode cX4_readItem 15 = .ok (.iconst 3, 1) := by decide +kernel
theorem dX4_readItem_16 : decode cX4_readItem 16 = .ok (.istore_n 3, 1) := by decide +kernel
theorem dX4_readItem_17 : decode cX4_readItem 17 = .ok (.aload_n 0, 1) := by decide +kernel
theorem dX4_readItem_18 : decode cX4_readItem 18 = .ok (.dup, 1) := by decide +kernel
theorem dX4_readItem_19 : decode cX4_readItem 19 = .ok (.getfield 33, 3) := by decide +kernel
theorem dX4_readItem_22 : decode cX4_readItem 22 = .ok (.iconst 1, 1) := by decide +kernel
theorem dX4_readItem_23 : decode cX4_readItem 23 = .ok (.iadd, 1) := by decide +kernel
theorem dX4_readItem_24 : decode cX4_readItem 24 = .ok (.putfield 33, 3) := by decide +kernel
theorem dX4_readItem_27 : decode cX4_readItem 27 = .ok (.iconst 0, 1) := by decide +kernel
theorem dX4_readItem_28 : decode cX4_readItem 28 = .ok (.istore 4, 2) := by decide +kernel
theorem dX4_readItem_30 : decode cX4_readItem 30 = .ok (.iload 4, 2) := by decide +kernel
theorem dX4_readItem_32 : decode cX4_readItem 32 = .ok (.iload_n 3, 1) := by decide +kernel
theorem dX4_readItem_33 : decode cX4_readItem 33 = .ok (.if_icmp .ge 65, 3) := by decide +kernel
theorem dX4_readItem_36 : decode cX4_readItem 36 = .ok (.aload_n 0, 1) := by decide +kernel
theorem dX4_readItem_37 : decode cX4_readItem 37 = .ok (.invokevirtual 44, 3) := by decide +kernel
theorem dX4_readItem_40 : decode cX4_readItem 40 = .ok (.istore 5, 2) := by decide +kernel
theorem dX4_readItem_42 : decode cX4_readItem 42 = .ok (.iload 5, 2) := by decide +kernel
theorem dX4_readItem_44 : decode cX4_readItem 44 = .ok (.ifCond .lt 25, 3) := by decide +kernel
theorem dX4_readItem_47 : decode cX4_readItem 47 = .ok (.aload_n 0, 1) := by decide +kernel
theorem dX4_readItem_48 : decode cX4_readItem 48 = .ok (.invokevirtual 40, 3) := by decide +kernel
theorem dX4_readItem_51 : decode cX4_readItem 51 = .ok (.iload 4, 2) := by decide +kernel
theorem dX4_readItem_53 : decode cX4_readItem 53 = .ok (.iload_n 3, 1) := by decide +kernel
theorem dX4_readItem_54 : decode cX4_readItem 54 = .ok (.iconst 1, 1) := by decide +kernel
theorem dX4_readItem_55 : decode cX4_readItem 55 = .ok (.isub, 1) := by decide +kernel
theorem dX4_readItem_56 : decode cX4_readItem 56 = .ok (.if_icmp .ge 8, 3) := by decide +kernel
theorem dX4_readItem_59 : decode cX4_readItem 59 = .ok (.bipush 44, 2) := by decide +kernel
theorem dX4_readItem_61 : decode cX4_readItem 61 = .ok (.goto 5, 3) := by decide +kernel
theorem dX4_readItem_64 : decode cX4_readItem 64 = .ok (.bipush 59, 2) := by decide +kernel
theorem dX4_readItem_66 : decode cX4_readItem 66 = .ok (.if_icmp .eq 5, 3) := by decide +kernel
theorem dX4_readItem_69 : decode cX4_readItem 69 = .ok (.iconst 0, 1) := by decide +kernel
theorem dX4_readItem_70 : decode cX4_readItem 70 = .ok (.ireturn, 1) := by decide +kernel
theorem dX4_readItem_71 : decode cX4_readItem 71 = .ok (.aload_n 0, 1) := by decide +kernel
theorem dX4_readItem_72 : decode cX4_readItem 72 = .ok (.getfield 15, 3) := by decide +kernel
theorem dX4_readItem_75 : decode cX4_readItem 75 = .ok (.iload 4, 2) := by decide +kernel
theorem dX4_readItem_77 : decode cX4_readItem 77 = .ok (.iload 5, 2) := by decide +kernel
theorem dX4_readItem_79 : decode cX4_readItem 79 = .ok (.invokestatic 22, 3) := by decide +kernel
theorem dX4_readItem_82 : decode cX4_readItem 82 = .ok (.aload_n 0, 1) := by decide +kernel
theorem dX4_readItem_83 : decode cX4_readItem 83 = .ok (.dup, 1) := by decide +kernel
theorem dX4_readItem_84 : decode cX4_readItem 84 = .ok (.getfield 33, 3) := by decide +kernel
theorem dX4_readItem_87 : decode cX4_readItem 87 = .ok (.iconst 1, 1) := by decide +kernel
theorem dX4_readItem_88 : decode cX4_readItem 88 = .ok (.iadd, 1) := by decide +kernel
theorem dX4_readItem_89 : decode cX4_readItem 89 = .ok (.putfield 33, 3) := by decide +kernel
theorem dX4_readItem_92 : decode cX4_readItem 92 = .ok (.iinc 4 1, 3) := by decide +kernel
theorem dX4_readItem_95 : decode cX4_readItem 95 = .ok (.goto (-65), 3) := by decide +kernel
theorem dX4_readItem_98 : decode cX4_readItem 98 = .ok (.aload_n 0, 1) := by decide +kernel
theorem dX4_readItem_99 : decode cX4_readItem 99 = .ok (.getfield 15, 3) := by decide +kernel
theorem dX4_readItem_102 : decode cX4_readItem 102 = .ok (.iconst 0, 1) := by decide +kernel
theorem dX4_readItem_103 : decode cX4_readItem 103 = .ok (.invokestatic 47, 3) := by decide +kernel
theorem dX4_readItem_106 : decode cX4_readItem 106 = .ok (.istore 4, 2) := by decide +kernel
theorem dX4_readItem_108 : decode cX4_readItem 108 = .ok (.aload_n 0, 1) := by decide +kernel
theorem dX4_readItem_109 : decode cX4_readItem 109 = .ok (.getfield 15, 3) := by decide +kernel
theorem dX4_readItem_112 : decode cX4_readItem 112 = .ok (.iconst 1, 1) := by decide +kernel
theorem dX4_readItem_113 : decode cX4_readItem 113 = .ok (.invokestatic 47, 3) := by decide +kernel
theorem dX4_readItem_116 : decode cX4_readItem 116 = .ok (.istore 5, 2) := by decide +kernel
theorem dX4_readItem_118 : decode cX4_readItem 118 = .ok (.aload_n 0, 1) := by decide +kernel
theorem dX4_readItem_119 : decode cX4_readItem 119 = .ok (.getfield 15, 3) := by decide +kernel
theorem dX4_readItem_122 : decode cX4_readItem 122 = .ok (.iconst 2, 1) := by decide +kernel
theorem dX4_readItem_123 : decode cX4_readItem 123 = .ok (.invokestatic 47, 3) := by decide +kernel
theorem dX4_readItem_126 : decode cX4_readItem 126 = .ok (.istore 6, 2) := by decide +kernel
theorem dX4_readItem_128 : decode cX4_readItem 128 = .ok (.iload_n 2, 1) := by decide +kernel
theorem dX4_readItem_129 : decode cX4_readItem 129 = .ok (.lookupswitch 85 #[(99, 74), (112, 63), (115, 43), (119, 54)], 43) := by decide +kernel
theorem dX4_readItem_172 : decode cX4_readItem 172 = .ok (.aload_n 1, 1) := by decide +kernel
theorem dX4_readItem_173 : decode cX4_readItem 173 = .ok (.iload 4, 2) := by decide +kernel
theorem dX4_readItem_175 : decode cX4_readItem 175 = .ok (.iload 5, 2) := by decide +kernel
theorem dX4_readItem_177 : decode cX4_readItem 177 = .ok (.iload 6, 2) := by decide +kernel
theorem dX4_readItem_179 : decode cX4_readItem 179 = .ok (.invokestatic 51, 3) := by decide +kernel
theorem dX4_readItem_182 : decode cX4_readItem 182 = .ok (.ireturn, 1) := by decide +kernel
theorem dX4_readItem_183 : decode cX4_readItem 183 = .ok (.aload_n 1, 1) := by decide +kernel
theorem dX4_readItem_184 : decode cX4_readItem 184 = .ok (.iload 4, 2) := by decide +kernel
theorem dX4_readItem_186 : decode cX4_readItem 186 = .ok (.iload 5, 2) := by decide +kernel
theorem dX4_readItem_188 : decode cX4_readItem 188 = .ok (.invokestatic 55, 3) := by decide +kernel
theorem dX4_readItem_191 : decode cX4_readItem 191 = .ok (.ireturn, 1) := by decide +kernel
theorem dX4_readItem_192 : decode cX4_readItem 192 = .ok (.aload_n 1, 1) := by decide +kernel
theorem dX4_readItem_193 : decode cX4_readItem 193 = .ok (.iload 4, 2) := by decide +kernel
theorem dX4_readItem_195 : decode cX4_readItem 195 = .ok (.iload 5, 2) := by decide +kernel
theorem dX4_readItem_197 : decode cX4_readItem 197 = .ok (.iload 6, 2) := by decide +kernel
theorem dX4_readItem_199 : decode cX4_readItem 199 = .ok (.invokestatic 59, 3) := by decide +kernel
theorem dX4_readItem_202 : decode cX4_readItem 202 = .ok (.ireturn, 1) := by decide +kernel
theorem dX4_readItem_203 : decode cX4_readItem 203 = .ok (.aload_n 1, 1) := by decide +kernel
theorem dX4_readItem_204 : decode cX4_readItem 204 = .ok (.iload 4, 2) := by decide +kernel
theorem dX4_readItem_206 : decode cX4_readItem 206 = .ok (.iload 5, 2) := by decide +kernel
theorem dX4_readItem_208 : decode cX4_readItem 208 = .ok (.iload 6, 2) := by decide +kernel
theorem dX4_readItem_210 : decode cX4_readItem 210 = .ok (.invokestatic 62, 3) := by decide +kernel
theorem dX4_readItem_213 : decode cX4_readItem 213 = .ok (.ireturn, 1) := by decide +kernel
theorem dX4_readItem_214 : decode cX4_readItem 214 = .ok (.iconst 0, 1) := by decide +kernel
theorem dX4_readItem_215 : decode cX4_readItem 215 = .ok (.ireturn, 1) := by decide +kernel
theorem dX4_readNumber_0 : decode cX4_readNumber 0 = .ok (.bipush (-4), 2) := by decide +kernel
theorem dX4_readNumber_2 : decode cX4_readNumber 2 = .ok (.istore_n 1, 1) := by decide +kernel
theorem dX4_readNumber_3 : decode cX4_readNumber 3 = .ok (.iconst 0, 1) := by decide +kernel
theorem dX4_readNumber_4 : decode cX4_readNumber 4 = .ok (.istore_n 2, 1) := by decide +kernel
theorem dX4_readNumber_5 : decode cX4_readNumber 5 = .ok (.iload_n 2, 1) := by decide +kernel
theorem dX4_readNumber_6 : decode cX4_readNumber 6 = .ok (.iconst 2, 1) := by decide +kernel
theorem dX4_readNumber_7 : decode cX4_readNumber 7 = .ok (.if_icmp .ge 50, 3) := by decide +kernel
theorem dX4_readNumber_10 : decode cX4_readNumber 10 = .ok (.aload_n 0, 1) := by decide +kernel
theorem dX4_readNumber_11 : decode cX4_readNumber 11 = .ok (.invokevirtual 40, 3) := by decide +kernel
theorem dX4_readNumber_14 : decode cX4_readNumber 14 = .ok (.bipush 48, 2) := by decide +kernel
theorem dX4_readNumber_16 : decode cX4_readNumber 16 = .ok (.bipush 57, 2) := by decide +kernel
theorem dX4_readNumber_18 : decode cX4_readNumber 18 = .ok (.invokestatic 65, 3) := by decide +kernel
theorem dX4_readNumber_21 : decode cX4_readNumber 21 = .ok (.ifCond .eq 36, 3) := by decide +kernel
theorem dX4_readNumber_24 : decode cX4_readNumber 24 = .ok (.iconst 0, 1) := by decide +kernel
theorem dX4_readNumber_25 : decode cX4_readNumber 25 = .ok (.iload_n 1, 1) := by decide +kernel
theorem dX4_readNumber_26 : decode cX4_readNumber 26 = .ok (.invokestatic 69, 3) := by decide +kernel
theorem dX4_readNumber_29 : decode cX4_readNumber 29 = .ok (.bipush 10, 2) := by decide +kernel
theorem dX4_readNumber_31 : decode cX4_readNumber 31 = .ok (.imul, 1) := by decide +kernel
theorem dX4_readNumber_32 : decode cX4_readNumber 32 = .ok (.aload_n 0, 1) := by decide +kernel
theorem dX4_readNumber_33 : decode cX4_readNumber 33 = .ok (.invokevirtual 40, 3) := by decide +kernel
theorem dX4_readNumber_36 : decode cX4_readNumber 36 = .ok (.iadd, 1) := by decide +kernel
theorem dX4_readNumber_37 : decode cX4_readNumber 37 = .ok (.bipush 48, 2) := by decide +kernel
theorem dX4_readNumber_39 : decode cX4_readNumber 39 = .ok (.isub, 1) := by decide +kernel
theorem dX4_readNumber_40 : decode cX4_readNumber 40 = .ok (.istore_n 1, 1) := by decide +kernel
theorem dX4_readNumber_41 : decode cX4_readNumber 41 = .ok (.aload_n 0, 1) := by decide +kernel
theorem dX4_readNumber_42 : decode cX4_readNumber 42 = .ok (.dup, 1) := by decide +kernel
theorem dX4_readNumber_43 : decode cX4_readNumber 43 = .ok (.getfield 33, 3) := by decide +kernel
theorem dX4_readNumber_46 : decode cX4_readNumber 46 = .ok (.iconst 1, 1) := by decide +kernel
theorem dX4_readNumber_47 : decode cX4_readNumber 47 = .ok (.iadd, 1) := by decide +kernel
theorem dX4_readNumber_48 : decode cX4_readNumber 48 = .ok (.putfield 33, 3) := by decide +kernel
theorem dX4_readNumber_51 : decode cX4_readNumber 51 = .ok (.iinc 2 1, 3) := by decide +kernel
theorem dX4_readNumber_54 : decode cX4_readNumber 54 = .ok (.goto (-49), 3) := by decide +kernel
theorem dX4_readNumber_57 : decode cX4_readNumber 57 = .ok (.iload_n 1, 1) := by decide +kernel
theorem dX4_readNumber_58 : decode cX4_readNumber 58 = .ok (.ireturn, 1) := by decide +kernel
theorem dX4_letterHere_0 : decode cX4_letterHere 0 = .ok (.aload_n 0, 1) := by decide +kernel
theorem dX4_letterHere_1 : decode cX4_letterHere 1 = .ok (.getfield 33, 3) := by decide +kernel
theorem dX4_letterHere_4 : decode cX4_letterHere 4 = .ok (.aload_n 0, 1) := by decide +kernel
theorem dX4_letterHere_5 : decode cX4_letterHere 5 = .ok (.getfield 18, 3) := by decide +kernel
theorem dX4_letterHere_8 : decode cX4_letterHere 8 = .ok (.if_icmp .ge 17, 3) := by decide +kernel
theorem dX4_letterHere_11 : decode cX4_letterHere 11 = .ok (.aload_n 0, 1) := by decide +kernel
theorem dX4_letterHere_12 : decode cX4_letterHere 12 = .ok (.getfield 9, 3) := by decide +kernel
theorem dX4_letterHere_15 : decode cX4_letterHere 15 = .ok (.aload_n 0, 1) := by decide +kernel
theorem dX4_letterHere_16 : decode cX4_letterHere 16 = .ok (.getfield 33, 3) := by decide +kernel
theorem dX4_letterHere_19 : decode cX4_letterHere 19 = .ok (.invokestatic 47, 3) := by decide +kernel
theorem dX4_letterHere_22 : decode cX4_letterHere 22 = .ok (.goto 4, 3) := by decide +kernel
theorem dX4_letterHere_25 : decode cX4_letterHere 25 = .ok (.iconst 0, 1) := by decide +kernel
theorem dX4_letterHere_26 : decode cX4_letterHere 26 = .ok (.ireturn, 1) := by decide +kernel
theorem dX4_tellShip_0 : decode cX4_tellShip 0 = .ok (.iload_n 1, 1) := by decide +kernel
theorem dX4_tellShip_1 : decode cX4_tellShip 1 = .ok (.iload_n 2, 1) := by decide +kernel
theorem dX4_tellShip_2 : decode cX4_tellShip 2 = .ok (.invokestatic 75, 3) := by decide +kernel
theorem dX4_tellShip_5 : decode cX4_tellShip 5 = .ok (.ifCond .eq 9, 3) := by decide +kernel
theorem dX4_tellShip_8 : decode cX4_tellShip 8 = .ok (.iload_n 3, 1) := by decide +kernel
theorem dX4_tellShip_9 : decode cX4_tellShip 9 = .ok (.bipush 20, 2) := by decide +kernel
theorem dX4_tellShip_11 : decode cX4_tellShip 11 = .ok (.if_icmp .le 5, 3) := by decide +kernel
theorem dX4_tellShip_14 : decode cX4_tellShip 14 = .ok (.iconst 0, 1) := by decide +kernel
theorem dX4_tellShip_15 : decode cX4_tellShip 15 = .ok (.ireturn, 1) := by decide +kernel
theorem dX4_tellShip_16 : decode cX4_tellShip 16 = .ok (.aload_n 0, 1) := by decide +kernel
theorem dX4_tellShip_17 : decode cX4_tellShip 17 = .ok (.iload_n 1, 1) := by decide +kernel
theorem dX4_tellShip_18 : decode cX4_tellShip 18 = .ok (.iload_n 2, 1) := by decide +kernel
theorem dX4_tellShip_19 : decode cX4_tellShip 19 = .ok (.invokevirtual 79, 3) := by decide +kernel
theorem dX4_tellShip_22 : decode cX4_tellShip 22 = .ok (.aload_n 0, 1) := by decide +kernel
theorem dX4_tellShip_23 : decode cX4_tellShip 23 = .ok (.iload_n 3, 1) := by decide +kernel
theorem dX4_tellShip_24 : decode cX4_tellShip 24 = .ok (.putfield 83, 3) := by decide +kernel
theorem dX4_tellShip_27 : decode cX4_tellShip 27 = .ok (.iconst 1, 1) := by decide +kernel
theorem dX4_tellShip_28 : decode cX4_tellShip 28 = .ok (.ireturn, 1) := by decide +kernel
theorem dX4_tellWind_0 : decode cX4_tellWind 0 = .ok (.iload_n 1, 1) := by decide +kernel
theorem dX4_tellWind_1 : decode cX4_tellWind 1 = .ok (.iconst 4, 1) := by decide +kernel
theorem dX4_tellWind_2 : decode cX4_tellWind 2 = .ok (.if_icmp .gt 9, 3) := by decide +kernel
theorem dX4_tellWind_5 : decode cX4_tellWind 5 = .ok (.iload_n 2, 1) := by decide +kernel
theorem dX4_tellWind_6 : decode cX4_tellWind 6 = .ok (.bipush 20, 2) := by decide +kernel
theorem dX4_tellWind_8 : decode cX4_tellWind 8 = .ok (.if_icmp .le 5, 3) := by decide +kernel
theorem dX4_tellWind_11 : decode cX4_tellWind 11 = .ok (.iconst 0, 1) := by decide +kernel
theorem dX4_tellWind_12 : decode cX4_tellWind 12 = .ok (.ireturn, 1) := by decide +kernel
theorem dX4_tellWind_13 : decode cX4_tellWind 13 = .ok (.aload_n 0, 1) := by decide +kernel
theorem dX4_tellWind_14 : decode cX4_tellWind 14 = .ok (.iload_n 1, 1) := by decide +kernel
theorem dX4_tellWind_15 : decode cX4_tellWind 15 = .ok (.putfield 86, 3) := by decide +kernel
theorem dX4_tellWind_18 : decode cX4_tellWind 18 = .ok (.aload_n 0, 1) := by decide +kernel
theorem dX4_tellWind_19 : decode cX4_tellWind 19 = .ok (.iload_n 2, 1) := by decide +kernel
theorem dX4_tellWind_20 : decode cX4_tellWind 20 = .ok (.putfield 89, 3) := by decide +kernel
theorem dX4_tellWind_23 : decode cX4_tellWind 23 = .ok (.iconst 1, 1) := by decide +kernel
theorem dX4_tellWind_24 : decode cX4_tellWind 24 = .ok (.ireturn, 1) := by decide +kernel
theorem dX4_tellPost_0 : decode cX4_tellPost 0 = .ok (.aload_n 0, 1) := by decide +kernel
theorem dX4_tellPost_1 : decode cX4_tellPost 1 = .ok (.getfield 92, 3) := by decide +kernel
theorem dX4_tellPost_4 : decode cX4_tellPost 4 = .ok (.iconst 5, 1) := by decide +kernel
theorem dX4_tellPost_5 : decode cX4_tellPost 5 = .ok (.if_icmp .ge 16, 3) := by decide +kernel
theorem dX4_tellPost_8 : decode cX4_tellPost 8 = .ok (.iload_n 1, 1) := by decide +kernel
theorem dX4_tellPost_9 : decode cX4_tellPost 9 = .ok (.iload_n 2, 1) := by decide +kernel
theorem dX4_tellPost_10 : decode cX4_tellPost 10 = .ok (.invokestatic 75, 3) := by decide +kernel
theorem dX4_tellPost_13 : decode cX4_tellPost 13 = .ok (.ifCond .eq 8, 3) := by decide +kernel
theorem dX4_tellPost_16 : decode cX4_tellPost 16 = .ok (.iload_n 3, 1) := by decide +kernel
theorem dX4_tellPost_17 : decode cX4_tellPost 17 = .ok (.iconst 5, 1) := by decide +kernel
theorem dX4_tellPost_18 : decode cX4_tellPost 18 = .ok (.if_icmp .le 5, 3) := by decide +kernel
theorem dX4_tellPost_21 : decode cX4_tellPost 21 = .ok (.iconst 0, 1) := by decide +kernel
theorem dX4_tellPost_22 : decode cX4_tellPost 22 = .ok (.ireturn, 1) := by decide +kernel
theorem dX4_tellPost_23 : decode cX4_tellPost 23 = .ok (.aload_n 0, 1) := by decide +kernel
theorem dX4_tellPost_24 : decode cX4_tellPost 24 = .ok (.iload_n 1, 1) := by decide +kernel
theorem dX4_tellPost_25 : decode cX4_tellPost 25 = .ok (.iload_n 2, 1) := by decide +kernel
theorem dX4_tellPost_26 : decode cX4_tellPost 26 = .ok (.iload_n 3, 1) := by decide +kernel
theorem dX4_tellPost_27 : decode cX4_tellPost 27 = .ok (.invokevirtual 95, 3) := by decide +kernel
theorem dX4_tellPost_30 : decode cX4_tellPost 30 = .ok (.iconst 1, 1) := by decide +kernel
theorem dX4_tellPost_31 : decode cX4_tellPost 31 = .ok (.ireturn, 1) := by decide +kernel
theorem dX4_tellSailor_0 : decode cX4_tellSailor 0 = .ok (.aload_n 0, 1) := by decide +kernel
theorem dX4_tellSailor_1 : decode cX4_tellSailor 1 = .ok (.getfield 99, 3) := by decide +kernel
theorem dX4_tellSailor_4 : decode cX4_tellSailor 4 = .ok (.bipush 7, 2) := by decide +kernel
theorem dX4_tellSailor_6 : decode cX4_tellSailor 6 = .ok (.if_icmp .ge 23, 3) := by decide +kernel
theorem dX4_tellSailor_9 : decode cX4_tellSailor 9 = .ok (.iload_n 1, 1) := by decide +kernel
theorem dX4_tellSailor_10 : decode cX4_tellSailor 10 = .ok (.iconst 3, 1) := by decide +kernel
theorem dX4_tellSailor_11 : decode cX4_tellSailor 11 = .ok (.if_icmp .gt 18, 3) := by decide +kernel
theorem dX4_tellSailor_14 : decode cX4_tellSailor 14 = .ok (.iload_n 2, 1) := by decide +kernel
theorem dX4_tellSailor_15 : decode cX4_tellSailor 15 = .ok (.iconst 5, 1) := by decide +kernel
theorem dX4_tellSailor_16 : decode cX4_tellSailor 16 = .ok (.if_icmp .gt 13, 3) := by decide +kernel
theorem dX4_tellSailor_19 : decode cX4_tellSailor 19 = .ok (.iload_n 3, 1) := by decide +kernel
theorem dX4_tellSailor_20 : decode cX4_tellSailor 20 = .ok (.iconst 1, 1) := by decide +kernel
theorem dX4_tellSailor_21 : decode cX4_tellSailor 21 = .ok (.bipush 9, 2) := by decide +kernel
theorem dX4_tellSailor_23 : decode cX4_tellSailor 23 = .ok (.invokestatic 65, 3) := by decide +kernel
theorem dX4_tellSailor_26 : decode cX4_tellSailor 26 = .ok (.ifCond .ne 5, 3) := by decide +kernel
theorem dX4_tellSailor_29 : decode cX4_tellSailor 29 = .ok (.iconst 0, 1) := by decide +kernel
theorem dX4_tellSailor_30 : decode cX4_tellSailor 30 = .ok (.ireturn, 1) := by decide +kernel
theorem dX4_tellSailor_31 : decode cX4_tellSailor 31 = .ok (.aload_n 0, 1) := by decide +kernel
theorem dX4_tellSailor_32 : decode cX4_tellSailor 32 = .ok (.iload_n 1, 1) := by decide +kernel
theorem dX4_tellSailor_33 : decode cX4_tellSailor 33 = .ok (.iload_n 2, 1) := by decide +kernel
theorem dX4_tellSailor_34 : decode cX4_tellSailor 34 = .ok (.iload_n 3, 1) := by decide +kernel
theorem dX4_tellSailor_35 : decode cX4_tellSailor 35 = .ok (.invokevirtual 102, 3) := by decide +kernel
theorem dX4_tellSailor_38 : decode cX4_tellSailor 38 = .ok (.iconst 1, 1) := by decide +kernel
theorem dX4_tellSailor_39 : decode cX4_tellSailor 39 = .ok (.ireturn, 1) := by decide +kernel
theorem dX5_init_0 : decode cX5_init 0 = .ok (.aload_n 0, 1) := by decide +kernel
theorem dX5_init_1 : decode cX5_init 1 = .ok (.invokespecial 1, 3) := by decide +kernel
theorem dX5_init_4 : decode cX5_init 4 = .ok (.aload_n 0, 1) := by decide +kernel
theorem dX5_init_5 : decode cX5_init 5 = .ok (.new 7, 3) := by decide +kernel
theorem dX5_init_8 : decode cX5_init 8 = .ok (.dup, 1) := by decide +kernel
theorem dX5_init_9 : decode cX5_init 9 = .ok (.invokespecial 9, 3) := by decide +kernel
theorem dX5_init_12 : decode cX5_init 12 = .ok (.putfield 10, 3) := by decide +kernel
theorem dX5_init_15 : decode cX5_init 15 = .ok (.aload_n 0, 1) := by decide +kernel
theorem dX5_init_16 : decode cX5_init 16 = .ok (.new 16, 3) := by decide +kernel
theorem dX5_init_19 : decode cX5_init 19 = .ok (.dup, 1) := by decide +kernel
theorem dX5_init_20 : decode cX5_init 20 = .ok (.invokespecial 18, 3) := by decide +kernel
theorem dX5_init_23 : decode cX5_init 23 = .ok (.putfield 19, 3) := by decide +kernel
theorem dX5_init_26 : decode cX5_init 26 = .ok (.aload_n 0, 1) := by decide +kernel
theorem dX5_init_27 : decode cX5_init 27 = .ok (.new 16, 3) := by decide +kernel
theorem dX5_init_30 : decode cX5_init 30 = .ok (.dup, 1) := by decide +kernel
theorem dX5_init_31 : decode cX5_init 31 = .ok (.invokespecial 18, 3) := by decide +kernel
theorem dX5_init_34 : decode cX5_init 34 = .ok (.putfield 23, 3) := by decide +kernel
theorem dX5_init_37 : decode cX5_init 37 = .ok (.aload_n 0, 1) := by decide +kernel
theorem dX5_init_38 : decode cX5_init 38 = .ok (.new 26, 3) := by decide +kernel
theorem dX5_init_41 : decode cX5_init 41 = .ok (.dup, 1) := by decide +kernel
theorem dX5_init_42 : decode cX5_init 42 = .ok (.invokespecial 28, 3) := by decide +kernel
theorem dX5_init_45 : decode cX5_init 45 = .ok (.putfield 29, 3) := by decide +kernel
theorem dX5_init_48 : decode cX5_init 48 = .ok (.aload_n 0, 1) := by decide +kernel
theorem dX5_init_49 : decode cX5_init 49 = .ok (.new 33, 3) := by decide +kernel
theorem dX5_init_52 : decode cX5_init 52 = .ok (.dup, 1) := by decide +kernel
theorem dX5_init_53 : decode cX5_init 53 = .ok (.bipush 8, 2) := by decide +kernel
theorem dX5_init_55 : decode cX5_init 55 = .ok (.invokespecial 35, 3) := by decide +kernel
theorem dX5_init_58 : decode cX5_init 58 = .ok (.putfield 38, 3) := by decide +kernel
theorem dX5_init_61 : decode cX5_init 61 = .ok (.aload_n 0, 1) := by decide +kernel
theorem dX5_init_62 : decode cX5_init 62 = .ok (.new 33, 3) := by decide +kernel
theorem dX5_init_65 : decode cX5_init 65 = .ok (.dup, 1) := by decide +kernel
theorem dX5_init_66 : decode cX5_init 66 = .ok (.iconst 2, 1) := by decide +kernel
theorem dX5_init_67 : decode cX5_init 67 = .ok (.invokespecial 35, 3) := by decide +kernel
theorem dX5_init_70 : decode cX5_init 70 = .ok (.putfield 42, 3) := by decide +kernel
theorem dX5_init_73 : decode cX5_init 73 = .ok (.aload_n 0, 1) := by decide +kernel
theorem dX5_init_74 : decode cX5_init 74 = .ok (.bipush 81, 2) := by decide +kernel
theorem dX5_init_76 : decode cX5_init 76 = .ok (.newarray .int, 2) := by decide +kernel
theorem dX5_init_78 : decode cX5_init 78 = .ok (.putfield 45, 3) := by decide +kernel
theorem dX5_init_81 : decode cX5_init 81 = .ok (.aload_n 0, 1) := by decide +kernel
theorem dX5_init_82 : decode cX5_init 82 = .ok (.bipush 81, 2) := by decide +kernel
theorem dX5_init_84 : decode cX5_init 84 = .ok (.newarray .int, 2) := by decide +kernel
theorem dX5_init_86 : decode cX5_init 86 = .ok (.putfield 49, 3) := by decide +kernel
theorem dX5_init_89 : decode cX5_init 89 = .ok (.iconst 0, 1) := by decide +kernel
theorem dX5_init_90 : decode cX5_init 90 = .ok (.istore_n 1, 1) := by decide +kernel
theorem dX5_init_91 : decode cX5_init 91 = .ok (.iload_n 1, 1) := by decide +kernel
theorem dX5_init_92 : decode cX5_init 92 = .ok (.ldc 52, 2) := by decide +kernel
theorem dX5_init_94 : decode cX5_init 94 = .ok (.invokevirtual 54, 3) := by decide +kernel
theorem dX5_init_97 : decode cX5_init 97 = .ok (.if_icmp .ge 23, 3) := by decide +kernel
theorem dX5_init_100 : decode cX5_init 100 = .ok (.aload_n 0, 1) := by decide +kernel
theorem dX5_init_101 : decode cX5_init 101 = .ok (.getfield 10, 3) := by decide +kernel
theorem dX5_init_104 : decode cX5_init 104 = .ok (.ldc 52, 2) := by decide +kernel
theorem dX5_init_106 : decode cX5_init 106 = .ok (.iload_n 1, 1) := by decide +kernel
theorem dX5_init_107 : decode cX5_init 107 = .ok (.invokevirtual 60, 3) := by decide +kernel
theorem dX5_init_110 : decode cX5_init 110 = .ok (.invokevirtual 64, 3) := by decide +kernel
theorem dX5_init_113 : decode cX5_init 113 = .ok (.pop, 1) := by decide +kernel
theorem dX5_init_114 : decode cX5_init 114 = .ok (.iinc 1 1, 3) := by decide +kernel
theorem dX5_init_117 : decode cX5_init 117 = .ok (.goto (-26), 3) := by decide +kernel
theorem dX5_init_120 : decode cX5_init 120 = .ok (.aload_n 0, 1) := by decide +kernel
theorem dX5_init_121 : decode cX5_init 121 = .ok (.getfield 10, 3) := by decide +kernel
theorem dX5_init_124 : decode cX5_init 124 = .ok (.aload_n 0, 1) := by decide +kernel
theorem dX5_init_125 : decode cX5_init 125 = .ok (.getfield 19, 3) := by decide +kernel
theorem dX5_init_128 : decode cX5_init 128 = .ok (.invokevirtual 68, 3) := by decide +kernel
theorem dX5_init_131 : decode cX5_init 131 = .ok (.pop, 1) := by decide +kernel
theorem dX5_init_132 : decode cX5_init 132 = .ok (.aload_n 0, 1) := by decide +kernel
theorem dX5_init_133 : decode cX5_init 133 = .ok (.getfield 10, 3) := by decide +kernel
theorem dX5_init_136 : decode cX5_init 136 = .ok (.iconst 0, 1) := by decide +kernel
theorem dX5_init_137 : decode cX5_init 137 = .ok (.putfield 72, 3) := by decide +kernel
theorem dX5_init_140 : decode cX5_init 140 = .ok (.return_, 1) := by decide +kernel
theorem dX5_write_0 : decode cX5_write 0 = .ok (.iload_n 1, 1) := by decide +kernel
theorem dX5_write_1 : decode cX5_write 1 = .ok (.bipush 32, 2) := by decide +kernel
theorem dX5_write_3 : decode cX5_write 3 = .ok (.bipush 126, 2) := by decide +kernel
theorem dX5_write_5 : decode cX5_write 5 = .ok (.invokestatic 75, 3) := by decide +kernel
theorem dX5_write_8 : decode cX5_write 8 = .ok (.ifCond .ne 5, 3) := by decide +kernel
theorem dX5_write_11 : decode cX5_write 11 = .ok (.iconst (-1), 1) := by decide +kernel
theorem dX5_write_12 : decode cX5_write 12 = .ok (.ireturn, 1) := by decide +kernel
theorem dX5_write_13 : decode cX5_write 13 = .ok (.aload_n 0, 1) := by decide +kernel
theorem dX5_write_14 : decode cX5_write 14 = .ok (.getfield 10, 3) := by decide +kernel
theorem dX5_write_17 : decode cX5_write 17 = .ok (.iload_n 1, 1) := by decide +kernel
theorem dX5_write_18 : decode cX5_write 18 = .ok (.invokevirtual 64, 3) := by decide +kernel
theorem dX5_write_21 : decode cX5_write 21 = .ok (.ifCond .eq 13, 3) := by decide +kernel
theorem dX5_write_24 : decode cX5_write 24 = .ok (.aload_n 0, 1) := by decide +kernel
theorem dX5_write_25 : decode cX5_write 25 = .ok (.getfield 10, 3) := by decide +kernel
theorem dX5_write_28 : decode cX5_write 28 = .ok (.getfield 72, 3) := by decide +kernel
theorem dX5_write_31 : decode cX5_write 31 = .ok (.goto 5, 3) := by decide +kernel
theorem dX5_write_34 : decode cX5_write 34 = .ok (.bipush (-3), 2) := by decide +kernel
theorem dX5_write_36 : decode cX5_write 36 = .ok (.ireturn, 1) := by decide +kernel
theorem dX5_wipe_0 : decode cX5_wipe 0 = .ok (.aload_n 0, 1) := by decide +kernel
theorem dX5_wipe_1 : decode cX5_wipe 1 = .ok (.getfield 10, 3) := by decide +kernel
theorem dX5_wipe_4 : decode cX5_wipe 4 = .ok (.getfield 72, 3) := by decide +kernel
theorem dX5_wipe_7 : decode cX5_wipe 7 = .ok (.istore_n 1, 1) := by decide +kernel
theorem dX5_wipe_8 : decode cX5_wipe 8 = .ok (.aload_n 0, 1) := by decide +kernel
theorem dX5_wipe_9 : decode cX5_wipe 9 = .ok (.getfield 10, 3) := by decide +kernel
theorem dX5_wipe_12 : decode cX5_wipe 12 = .ok (.iconst 0, 1) := by decide +kernel
theorem dX5_wipe_13 : decode cX5_wipe 13 = .ok (.putfield 72, 3) := by decide +kernel
theorem dX5_wipe_16 : decode cX5_wipe 16 = .ok (.iload_n 1, 1) := by decide +kernel
theorem dX5_wipe_17 : decode cX5_wipe 17 = .ok (.ireturn, 1) := by decide +kernel
theorem dX5_fault_0 : decode cX5_fault 0 = .ok (.aload_n 0, 1) := by decide +kernel
theorem dX5_fault_1 : decode cX5_fault 1 = .ok (.getfield 10, 3) := by decide +kernel
theorem dX5_fault_4 : decode cX5_fault 4 = .ok (.aload_n 0, 1) := by decide +kernel
theorem dX5_fault_5 : decode cX5_fault 5 = .ok (.getfield 23, 3) := by decide +kernel
theorem dX5_fault_8 : decode cX5_fault 8 = .ok (.invokevirtual 68, 3) := by decide +kernel
theorem dX5_fault_11 : decode cX5_fault 11 = .ok (.ireturn, 1) := by decide +kernel
theorem dX5_lay_0 : decode cX5_lay 0 = .ok (.aload_n 0, 1) := by decide +kernel
theorem dX5_lay_1 : decode cX5_lay 1 = .ok (.getfield 10, 3) := by decide +kernel
theorem dX5_lay_4 : decode cX5_lay 4 = .ok (.aload_n 0, 1) := by decide +kernel
theorem dX5_lay_5 : decode cX5_lay 5 = .ok (.getfield 23, 3) := by decide +kernel
theorem dX5_lay_8 : decode cX5_lay 8 = .ok (.invokevirtual 68, 3) := by decide +kernel
theorem dX5_lay_11 : decode cX5_lay 11 = .ok (.istore_n 1, 1) := by decide +kernel
theorem dX5_lay_12 : decode cX5_lay 12 = .ok (.iload_n 1, 1) := by decide +kernel
theorem dX5_lay_13 : decode cX5_lay 13 = .ok (.bipush (-4), 2) := by decide +kernel
theorem dX5_lay_15 : decode cX5_lay 15 = .ok (.if_icmp .ne 23, 3) := by decide +kernel
theorem dX5_lay_18 : decode cX5_lay 18 = .ok (.aload_n 0, 1) := by decide +kernel
theorem dX5_lay_19 : decode cX5_lay 19 = .ok (.getfield 23, 3) := by decide +kernel
theorem dX5_lay_22 : decode cX5_lay 22 = .ok (.getfield 79, 3) := by decide +kernel
theorem dX5_lay_25 : decode cX5_lay 25 = .ok (.ifCond .eq 13, 3) := by decide +kernel
theorem dX5_lay_28 : decode cX5_lay 28 = .ok (.aload_n 0, 1) := by decide +kernel
theorem dX5_lay_29 : decode cX5_lay 29 = .ok (.getfield 23, 3) := by decide +kernel
theorem dX5_lay_32 : decode cX5_lay 32 = .ok (.getfield 82, 3) := by decide +kernel
theorem dX5_lay_35 : decode cX5_lay 35 = .ok (.ifCond .ne 6, 3) := by decide +kernel
theorem dX5_lay_38 : decode cX5_lay 38 = .ok (.bipush (-2), 2) := by decide +kernel
theorem dX5_lay_40 : decode cX5_lay 40 = .ok (.ireturn, 1) := by decide +kernel
theorem dX5_lay_41 : decode cX5_lay 41 = .ok (.aload_n 0, 1) := by decide +kernel
theorem dX5_lay_42 : decode cX5_lay 42 = .ok (.getfield 19, 3) := by decide +kernel
theorem dX5_lay_45 : decode cX5_lay 45 = .ok (.aload_n 0, 1) := by decide +kernel
theorem dX5_lay_46 : decode cX5_lay 46 = .ok (.getfield 23, 3) := by decide +kernel
theorem dX5_lay_49 : decode cX5_lay 49 = .ok (.invokevirtual 85, 3) := by decide +kernel
theorem dX5_lay_52 : decode cX5_lay 52 = .ok (.aload_n 0, 1) := by decide +kernel
theorem dX5_lay_53 : decode cX5_lay 53 = .ok (.getfield 29, 3) := by decide +kernel
theorem dX5_lay_56 : decode cX5_lay 56 = .ok (.iconst 0, 1) := by decide +kernel
theorem dX5_lay_57 : decode cX5_lay 57 = .ok (.putfield 89, 3) := by decide +kernel
theorem dX5_lay_60 : decode cX5_lay 60 = .ok (.aload_n 0, 1) := by decide +kernel
theorem dX5_lay_61 : decode cX5_lay 61 = .ok (.getfield 38, 3) := by decide +kernel
theorem dX5_lay_64 : decode cX5_lay 64 = .ok (.iconst 0, 1) := by decide +kernel
theorem dX5_lay_65 : decode cX5_lay 65 = .ok (.putfield 92, 3) := by decide +kernel
theorem dX5_lay_68 : decode cX5_lay 68 = .ok (.aload_n 0, 1) := by decide +kernel
theorem dX5_lay_69 : decode cX5_lay 69 = .ok (.getfield 42, 3) := by decide +kernel
theorem dX5_lay_72 : decode cX5_lay 72 = .ok (.iconst 0, 1) := by decide +kernel
theorem dX5_lay_73 : decode cX5_lay 73 = .ok (.putfield 92, 3) := by decide +kernel
theorem dX5_lay_76 : decode cX5_lay 76 = .ok (.aload_n 0, 1) := by decide +kernel
theorem dX5_lay_77 : decode cX5_lay 77 = .ok (.getfield 19, 3) := by decide +kernel
theorem dX5_lay_80 : decode cX5_lay 80 = .ok (.getfield 82, 3) := by decide +kernel
theorem dX5_lay_83 : decode cX5_lay 83 = .ok (.ireturn, 1) := by decide +kernel
theorem dX5_post_0 : decode cX5_post 0 = .ok (.aload_n 0, 1) := by decide +kernel
theorem dX5_post_1 : decode cX5_post 1 = .ok (.getfield 19, 3) := by decide +kernel
theorem dX5_post_4 : decode cX5_post 4 = .ok (.iload_n 1, 1) := by decide +kernel
theorem dX5_post_5 : decode cX5_post 5 = .ok (.invokevirtual 93, 3) := by decide +kernel
theorem dX5_post_8 : decode cX5_post 8 = .ok (.ifCond .ne 5, 3) := by decide +kernel
theorem dX5_post_11 : decode cX5_post 11 = .ok (.iconst (-1), 1) := by decide +kernel
theorem dX5_post_12 : decode cX5_post 12 = .ok (.ireturn, 1) := by decide +kernel
theorem dX5_post_13 : decode cX5_post 13 = .ok (.iload_n 2, 1) := by decide +kernel
theorem dX5_post_14 : decode cX5_post 14 = .ok (.tableswitch 78 0 3 #[30, 42, 54, 66], 30) := by decide +kernel
theorem dX5_post_44 : decode cX5_post 44 = .ok (.aload_n 0, 1) := by decide +kernel
theorem dX5_post_45 : decode cX5_post 45 = .ok (.getfield 19, 3) := by decide +kernel
theorem dX5_post_48 : decode cX5_post 48 = .ok (.getfield 96, 3) := by decide +kernel
theorem dX5_post_51 : decode cX5_post 51 = .ok (.iload_n 1, 1) := by decide +kernel
theorem dX5_post_52 : decode cX5_post 52 = .ok (.invokestatic 99, 3) := by decide +kernel
theorem dX5_post_55 : decode cX5_post 55 = .ok (.ireturn, 1) := by decide +kernel
theorem dX5_post_56 : decode cX5_post 56 = .ok (.aload_n 0, 1) := by decide +kernel
theorem dX5_post_57 : decode cX5_post 57 = .ok (.getfield 19, 3) := by decide +kernel
theorem dX5_post_60 : decode cX5_post 60 = .ok (.getfield 105, 3) := by decide +kernel
theorem dX5_post_63 : decode cX5_post 63 = .ok (.iload_n 1, 1) := by decide +kernel
theorem dX5_post_64 : decode cX5_post 64 = .ok (.invokestatic 99, 3) := by decide +kernel
theorem dX5_post_67 : decode cX5_post 67 = .ok (.ireturn, 1) := by decide +kernel
theorem dX5_post_68 : decode cX5_post 68 = .ok (.aload_n 0, 1) := by decide +kernel
theorem dX5_post_69 : decode cX5_post 69 = .ok (.getfield 19, 3) := by decide +kernel
theorem dX5_post_72 : decode cX5_post 72 = .ok (.getfield 108, 3) := by decide +kernel
theorem dX5_post_75 : decode cX5_post 75 = .ok (.iload_n 1, 1) := by decide +kernel
theorem dX5_post_76 : decode cX5_post 76 = .ok (.invokestatic 99, 3) := by decide +kernel
theorem dX5_post_79 : decode cX5_post 79 = .ok (.ireturn, 1) := by decide +kernel
theorem dX5_post_80 : decode cX5_post 80 = .ok (.aload_n 0, 1) := by decide +kernel
theorem dX5_post_81 : decode cX5_post 81 = .ok (.getfield 19, 3) := by decide +kernel
theorem dX5_post_84 : decode cX5_post 84 = .ok (.getfield 111, 3) := by decide +kernel
theorem dX5_post_87 : decode cX5_post 87 = .ok (.iload_n 1, 1) := by decide +kernel
theorem dX5_post_88 : decode cX5_post 88 = .ok (.invokestatic 99, 3) := by decide +kernel
theorem dX5_post_91 : decode cX5_post 91 = .ok (.ireturn, 1) := by decide +kernel
theorem dX5_post_92 : decode cX5_post 92 = .ok (.iconst (-1), 1) := by decide +kernel
theorem dX5_post_93 : decode cX5_post 93 = .ok (.ireturn, 1) := by decide +kernel
theorem dX5_crew_0 : decode cX5_crew 0 = .ok (.aload_n 0, 1) := by decide +kernel
theorem dX5_crew_1 : decode cX5_crew 1 = .ok (.getfield 19, 3) := by decide +kernel
theorem dX5_crew_4 : decode cX5_crew 4 = .ok (.iload_n 1, 1) := by decide +kernel
theorem dX5_crew_5 : decode cX5_crew 5 = .ok (.invokevirtual 114, 3) := by decide +kernel
theorem dX5_crew_8 : decode cX5_crew 8 = .ok (.ifCond .ne 5, 3) := by decide +kernel
theorem dX5_crew_11 : decode cX5_crew 11 = .ok (.iconst (-1), 1) := by decide +kernel
theorem dX5_crew_12 : decode cX5_crew 12 = .ok (.ireturn, 1) := by decide +kernel
theorem dX5_crew_13 : decode cX5_crew 13 = .ok (.aload_n 0, 1) := by decide +kernel
theorem dX5_crew_14 : decode cX5_crew 14 = .ok (.getfield 19, 3) := by decide +kernel
theorem dX5_crew_17 : decode cX5_crew 17 = .ok (.iload_n 1, 1) := by decide +kernel
theorem dX5_crew_18 : decode cX5_crew 18 = .ok (.invokevirtual 117, 3) := by decide +kernel
theorem dX5_crew_21 : decode cX5_crew 21 = .ok (.istore_n 3, 1) := by decide +kernel
theorem dX5_crew_22 : decode cX5_crew 22 = .ok (.aload_n 0, 1) := by decide +kernel
theorem dX5_crew_23 : decode cX5_crew 23 = .ok (.getfield 19, 3) := by decide +kernel
theorem dX5_crew_26 : decode cX5_crew 26 = .ok (.iload_n 1, 1) := by decide +kernel
theorem dX5_crew_27 : decode cX5_crew 27 = .ok (.iload_n 3, 1) := by decide +kernel
theorem dX5_crew_28 : decode cX5_crew 28 = .ok (.invokevirtual 121, 3) := by decide +kernel
theorem dX5_crew_31 : decode cX5_crew 31 = .ok (.istore 4, 2) := by decide +kernel
theorem dX5_crew_33 : decode cX5_crew 33 = .ok (.iload_n 2, 1) := by decide +kernel
theorem dX5_crew_34 : decode cX5_crew 34 = .ok (.tableswitch 90 0 5 #[38, 50, 62, 74, 76, 79], 38) := by decide +kernel
theorem dX5_crew_72 : decode cX5_crew 72 = .ok (.aload_n 0, 1) := by decide +kernel
theorem dX5_crew_73 : decode cX5_crew 73 = .ok (.getfield 19, 3) := by decide +kernel
theorem dX5_crew_76 : decode cX5_crew 76 = .ok (.getfield 125, 3) := by decide +kernel
theorem dX5_crew_79 : decode cX5_crew 79 = .ok (.iload_n 1, 1) := by decide +kernel
theorem dX5_crew_80 : decode cX5_crew 80 = .ok (.invokestatic 99, 3) := by decide +kernel
theorem dX5_crew_83 : decode cX5_crew 83 = .ok (.ireturn, 1) := by decide +kernel
theorem dX5_crew_84 : decode cX5_crew 84 = .ok (.aload_n 0, 1) := by decide +kernel
theorem dX5_crew_85 : decode cX5_crew 85 = .ok (.getfield 19, 3) := by decide +kernel
theorem dX5_crew_88 : decode cX5_crew 88 = .ok (.getfield 128, 3) := by decide +kernel
theorem dX5_crew_91 : decode cX5_crew 91 = .ok (.iload_n 1, 1) := by decide +kernel
theorem dX5_crew_92 : decode cX5_crew 92 = .ok (.invokestatic 99, 3) := by decide +kernel
theorem dX5_crew_95 : decode cX5_crew 95 = .ok (.ireturn, 1) := by decide +kernel
theorem dX5_crew_96 : decode cX5_crew 96 = .ok (.aload_n 0, 1) := by decide +kernel
theorem dX5_crew_97 : decode cX5_crew 97 = .ok (.getfield 19, 3) := by decide +kernel
theorem dX5_crew_100 : decode cX5_crew 100 = .ok (.getfield 131, 3) := by decide +kernel
theorem dX5_crew_103 : decode cX5_crew 103 = .ok (.iload_n 1, 1) := by decide +kernel
theorem dX5_crew_104 : decode cX5_crew 104 = .ok (.invokestatic 99, 3) := by decide +kernel
theorem dX5_crew_107 : decode cX5_crew 107 = .ok (.ireturn, 1) := by decide +kernel
theorem dX5_crew_108 : decode cX5_crew 108 = .ok (.iload_n 3, 1) := by decide +kernel
theorem dX5_crew_109 : decode cX5_crew 109 = .ok (.ireturn, 1) := by decide +kernel
theorem dX5_crew_110 : decode cX5_crew 110 = .ok (.iload 4, 2) := by decide +kernel
theorem dX5_crew_112 : decode cX5_crew 112 = .ok (.ireturn, 1) := by decide +kernel
theorem dX5_crew_113 : decode cX5_crew 113 = .ok (.aload_n 0, 1) := by decide +kernel
theorem dX5_crew_114 : decode cX5_crew 114 = .ok (.getfield 19, 3) := by decide +kernel
theorem dX5_crew_117 : decode cX5_crew 117 = .ok (.iload_n 3, 1) := by decide +kernel
theorem dX5_crew_118 : decode cX5_crew 118 = .ok (.iload 4, 2) := by decide +kernel
theorem dX5_crew_120 : decode cX5_crew 120 = .ok (.invokevirtual 134, 3) := by decide +kernel
theorem dX5_crew_123 : decode cX5_crew 123 = .ok (.ireturn, 1) := by decide +kernel
theorem dX5_crew_124 : decode cX5_crew 124 = .ok (.iconst (-1), 1) := by decide +kernel
theorem dX5_crew_125 : decode cX5_crew 125 = .ok (.ireturn, 1) := by decide +kernel
theorem dX5_pull_0 : decode cX5_pull 0 = .ok (.aload_n 0, 1) := by decide +kernel
theorem dX5_pull_1 : decode cX5_pull 1 = .ok (.getfield 19, 3) := by decide +kernel
theorem dX5_pull_4 : decode cX5_pull 4 = .ok (.invokevirtual 137, 3) := by decide +kernel
theorem dX5_pull_7 : decode cX5_pull 7 = .ok (.istore_n 2, 1) := by decide +kernel
theorem dX5_pull_8 : decode cX5_pull 8 = .ok (.iload_n 1, 1) := by decide +kernel
theorem dX5_pull_9 : decode cX5_pull 9 = .ok (.tableswitch 53 0 2 #[27, 39, 51], 27) := by decide +kernel
theorem dX5_pull_36 : decode cX5_pull 36 = .ok (.aload_n 0, 1) := by decide +kernel
theorem dX5_pull_37 : decode cX5_pull 37 = .ok (.getfield 19, 3) := by decide +kernel
theorem dX5_pull_40 : decode cX5_pull 40 = .ok (.getfield 140, 3) := by decide +kernel
theorem dX5_pull_43 : decode cX5_pull 43 = .ok (.sipush 500, 3) := by decide +kernel
theorem dX5_pull_46 : decode cX5_pull 46 = .ok (.iadd, 1) := by decide +kernel
theorem dX5_pull_47 : decode cX5_pull 47 = .ok (.ireturn, 1) := by decide +kernel
theorem dX5_pull_48 : decode cX5_pull 48 = .ok (.aload_n 0, 1) := by decide +kernel
theorem dX5_pull_49 : decode cX5_pull 49 = .ok (.getfield 19, 3) := by decide +kernel
theorem dX5_pull_52 : decode cX5_pull 52 = .ok (.getfield 143, 3) := by decide +kernel
theorem dX5_pull_55 : decode cX5_pull 55 = .ok (.sipush 500, 3) := by decide +kernel
theorem dX5_pull_58 : decode cX5_pull 58 = .ok (.iadd, 1) := by decide +kernel
theorem dX5_pull_59 : decode cX5_pull 59 = .ok (.ireturn, 1) := by decide +kernel
theorem dX5_pull_60 : decode cX5_pull 60 = .ok (.iload_n 2, 1) := by decide +kernel
theorem dX5_pull_61 : decode cX5_pull 61 = .ok (.ireturn, 1) := by decide +kernel
theorem dX5_pull_62 : decode cX5_pull 62 = .ok (.iconst (-1), 1) := by decide +kernel
theorem dX5_pull_63 : decode cX5_pull 63 = .ok (.ireturn, 1) := by decide +kernel
theorem dX5_pass_0 : decode cX5_pass 0 = .ok (.iload_n 1, 1) := by decide +kernel
theorem dX5_pass_1 : decode cX5_pass 1 = .ok (.iconst 1, 1) := by decide +kernel
theorem dX5_pass_2 : decode cX5_pass 2 = .ok (.bipush 20, 2) := by decide +kernel
theorem dX5_pass_4 : decode cX5_pass 4 = .ok (.invokestatic 75, 3) := by decide +kernel
theorem dX5_pass_7 : decode cX5_pass 7 = .ok (.ifCond .ne 5, 3) := by decide +kernel
theorem dX5_pass_10 : decode cX5_pass 10 = .ok (.iconst (-1), 1) := by decide +kernel
theorem dX5_pass_11 : decode cX5_pass 11 = .ok (.ireturn, 1) := by decide +kernel
theorem dX5_pass_12 : decode cX5_pass 12 = .ok (.aload_n 0, 1) := by decide +kernel
theorem dX5_pass_13 : decode cX5_pass 13 = .ok (.getfield 19, 3) := by decide +kernel
theorem dX5_pass_16 : decode cX5_pass 16 = .ok (.getfield 146, 3) := by decide +kernel
theorem dX5_pass_19 : decode cX5_pass 19 = .ok (.iload_n 1, 1) := by decide +kernel
theorem dX5_pass_20 : decode cX5_pass 20 = .ok (.iadd, 1) := by decide +kernel
theorem dX5_pass_21 : decode cX5_pass 21 = .ok (.sipush 999, 3) := by decide +kernel
theorem dX5_pass_24 : decode cX5_pass 24 = .ok (.if_icmp .le 6, 3) := by decide +kernel
theorem dX5_pass_27 : decode cX5_pass 27 = .ok (.bipush (-2), 2) := by decide +kernel
theorem dX5_pass_29 : decode cX5_pass 29 = .ok (.ireturn, 1) := by decide +kernel
theorem dX5_pass_30 : decode cX5_pass 30 = .ok (.aload_n 0, 1) := by decide +kernel
theorem dX5_pass_31 : decode cX5_pass 31 = .ok (.getfield 38, 3) := by decide +kernel
theorem dX5_pass_34 : decode cX5_pass 34 = .ok (.aload_n 0, 1) := by decide +kernel
theorem dX5_pass_35 : decode cX5_pass 35 = .ok (.getfield 19, 3) := by decide +kernel
theorem dX5_pass_38 : decode cX5_pass 38 = .ok (.invokevirtual 149, 3) := by decide +kernel
theorem dX5_pass_41 : decode cX5_pass 41 = .ok (.aload_n 0, 1) := by decide +kernel
theorem dX5_pass_42 : decode cX5_pass 42 = .ok (.getfield 19, 3) := by decide +kernel
theorem dX5_pass_45 : decode cX5_pass 45 = .ok (.iload_n 1, 1) := by decide +kernel
theorem dX5_pass_46 : decode cX5_pass 46 = .ok (.invokevirtual 152, 3) := by decide +kernel
theorem dX5_pass_49 : decode cX5_pass 49 = .ok (.ireturn, 1) := by decide +kernel
theorem dX5_wind_0 : decode cX5_wind 0 = .ok (.iload_n 1, 1) := by decide +kernel
theorem dX5_wind_1 : decode cX5_wind 1 = .ok (.iconst 0, 1) := by decide +kernel
theorem dX5_wind_2 : decode cX5_wind 2 = .ok (.iconst 4, 1) := by decide +kernel
theorem dX5_wind_3 : decode cX5_wind 3 = .ok (.invokestatic 75, 3) := by decide +kernel
theorem dX5_wind_6 : decode cX5_wind 6 = .ok (.ifCond .eq 13, 3) := by decide +kernel
theorem dX5_wind_9 : decode cX5_wind 9 = .ok (.iload_n 2, 1) := by decide +kernel
theorem dX5_wind_10 : decode cX5_wind 10 = .ok (.iconst 0, 1) := by decide +kernel
theorem dX5_wind_11 : decode cX5_wind 11 = .ok (.bipush 20, 2) := by decide +kernel
theorem dX5_wind_13 : decode cX5_wind 13 = .ok (.invokestatic 75, 3) := by decide +kernel
theorem dX5_wind_16 : decode cX5_wind 16 = .ok (.ifCond .ne 5, 3) := by decide +kernel
theorem dX5_wind_19 : decode cX5_wind 19 = .ok (.iconst (-1), 1) := by decide +kernel
theorem dX5_wind_20 : decode cX5_wind 20 = .ok (.ireturn, 1) := by decide +kernel
theorem dX5_wind_21 : decode cX5_wind 21 = .ok (.aload_n 0, 1) := by decide +kernel
theorem dX5_wind_22 : decode cX5_wind 22 = .ok (.getfield 38, 3) := by decide +kernel
theorem dX5_wind_25 : decode cX5_wind 25 = .ok (.aload_n 0, 1) := by decide +kernel
theorem dX5_wind_26 : decode cX5_wind 26 = .ok (.getfield 19, 3) := by decide +kernel
theorem dX5_wind_29 : decode cX5_wind 29 = .ok (.invokevirtual 149, 3) := by decide +kernel
theorem dX5_wind_32 : decode cX5_wind 32 = .ok (.aload_n 0, 1) := by decide +kernel
theorem dX5_wind_33 : decode cX5_wind 33 = .ok (.getfield 19, 3) := by decide +kernel
theorem dX5_wind_36 : decode cX5_wind 36 = .ok (.getfield 155, 3) := by decide +kernel
theorem dX5_wind_39 : decode cX5_wind 39 = .ok (.istore_n 3, 1) := by decide +kernel
theorem dX5_wind_40 : decode cX5_wind 40 = .ok (.aload_n 0, 1) := by decide +kernel
theorem dX5_wind_41 : decode cX5_wind 41 = .ok (.getfield 19, 3) := by decide +kernel
theorem dX5_wind_44 : decode cX5_wind 44 = .ok (.iload_n 1, 1) := by decide +kernel
theorem dX5_wind_45 : decode cX5_wind 45 = .ok (.putfield 158, 3) := by decide +kernel
theorem dX5_wind_48 : decode cX5_wind 48 = .ok (.aload_n 0, 1) := by decide +kernel
theorem dX5_wind_49 : decode cX5_wind 49 = .ok (.getfield 19, 3) := by decide +kernel
theorem dX5_wind_52 : decode cX5_wind 52 = .ok (.iload_n 2, 1) := by decide +kernel
theorem dX5_wind_53 : decode cX5_wind 53 = .ok (.putfield 155, 3) := by decide +kernel
theorem dX5_wind_56 : decode cX5_wind 56 = .ok (.iload_n 3, 1) := by decide +kernel
theorem dX5_wind_57 : decode cX5_wind 57 = .ok (.ireturn, 1) := by decide +kernel
theorem dX5_put_0 : decode cX5_put 0 = .ok (.aload_n 0, 1) := by decide +kernel
theorem dX5_put_1 : decode cX5_put 1 = .ok (.getfield 19, 3) := by decide +kernel
theorem dX5_put_4 : decode cX5_put 4 = .ok (.iload_n 1, 1) := by decide +kernel
theorem dX5_put_5 : decode cX5_put 5 = .ok (.invokevirtual 93, 3) := by decide +kernel
theorem dX5_put_8 : decode cX5_put 8 = .ok (.ifCond .eq 11, 3) := by decide +kernel
theorem dX5_put_11 : decode cX5_put 11 = .ok (.iload_n 2, 1) := by decide +kernel
theorem dX5_put_12 : decode cX5_put 12 = .ok (.iload_n 3, 1) := by decide +kernel
theorem dX5_put_13 : decode cX5_put 13 = .ok (.invokestatic 161, 3) := by decide +kernel
theorem dX5_put_16 : decode cX5_put 16 = .ok (.ifCond .ne 5, 3) := by decide +kernel
theorem dX5_put_19 : decode cX5_put 19 = .ok (.iconst (-1), 1) := by decide +kernel
theorem dX5_put_20 : decode cX5_put 20 = .ok (.ireturn, 1) := by decide +kernel
theorem dX5_put_21 : decode cX5_put 21 = .ok (.aload_n 0, 1) := by decide +kernel
theorem dX5_put_22 : decode cX5_put 22 = .ok (.getfield 19, 3) := by decide +kernel
theorem dX5_put_25 : decode cX5_put 25 = .ok (.getfield 111, 3) := by decide +kernel
theorem dX5_put_28 : decode cX5_put 28 = .ok (.iload_n 1, 1) := by decide +kernel
theorem dX5_put_29 : decode cX5_put 29 = .ok (.invokestatic 99, 3) := by decide +kernel
theorem dX5_put_32 : decode cX5_put 32 = .ok (.istore 4, 2) := by decide +kernel
theorem dX5_put_34 : decode cX5_put 34 = .ok (.iload 4, 2) := by decide +kernel
theorem dX5_put_36 : decode cX5_put 36 = .ok (.ifCond .ne 36, 3) := by decide +kernel
theorem dX5_put_39 : decode cX5_put 39 = .ok (.aload_n 0, 1) := by decide +kernel
theorem dX5_put_40 : decode cX5_put 40 = .ok (.getfield 19, 3) := by decide +kernel
theorem dX5_put_43 : decode cX5_put 43 = .ok (.getfield 96, 3) := by decide +kernel
theorem dX5_put_46 : decode cX5_put 46 = .ok (.iload_n 1, 1) := by decide +kernel
theorem dX5_put_47 : decode cX5_put 47 = .ok (.invokestatic 99, 3) := by decide +kernel
theorem dX5_put_50 : decode cX5_put 50 = .ok (.iload_n 2, 1) := by decide +kernel
theorem dX5_put_51 : decode cX5_put 51 = .ok (.if_icmp .ne 21, 3) := by decide +kernel
theorem dX5_put_54 : decode cX5_put 54 = .ok (.aload_n 0, 1) := by decide +kernel
theorem dX5_put_55 : decode cX5_put 55 = .ok (.getfield 19, 3) := by decide +kernel
theorem dX5_put_58 : decode cX5_put 58 = .ok (.getfield 105, 3) := by decide +kernel
theorem dX5_put_61 : decode cX5_put 61 = .ok (.iload_n 1, 1) := by decide +kernel
theorem dX5_put_62 : decode cX5_put 62 = .ok (.invokestatic 99, 3) := by decide +kernel
theorem dX5_put_65 : decode cX5_put 65 = .ok (.iload_n 3, 1) := by decide +kernel
theorem dX5_put_66 : decode cX5_put 66 = .ok (.if_icmp .ne 6, 3) := by decide +kernel
theorem dX5_put_69 : decode cX5_put 69 = .ok (.bipush (-2), 2) := by decide +kernel
theorem dX5_put_71 : decode cX5_put 71 = .ok (.ireturn, 1) := by decide +kernel
theorem dX5_put_72 : decode cX5_put 72 = .ok (.aload_n 0, 1) := by decide +kernel
theorem dX5_put_73 : decode cX5_put 73 = .ok (.getfield 38, 3) := by decide +kernel
theorem dX5_put_76 : decode cX5_put 76 = .ok (.aload_n 0, 1) := by decide +kernel
theorem dX5_put_77 : decode cX5_put 77 = .ok (.getfield 19, 3) := by decide +kernel
theorem dX5_put_80 : decode cX5_put 80 = .ok (.invokevirtual 149, 3) := by decide +kernel
theorem dX5_put_83 : decode cX5_put 83 = .ok (.aload_n 0, 1) := by decide +kernel
theorem dX5_put_84 : decode cX5_put 84 = .ok (.getfield 19, 3) := by decide +kernel
theorem dX5_put_87 : decode cX5_put 87 = .ok (.getfield 96, 3) := by decide +kernel
theorem dX5_put_90 : decode cX5_put 90 = .ok (.iload_n 1, 1) := by decide +kernel
theorem dX5_put_91 : decode cX5_put 91 = .ok (.iload_n 2, 1) := by decide +kernel
theorem dX5_put_92 : decode cX5_put 92 = .ok (.invokestatic 165, 3) := by decide +kernel
theorem dX5_put_95 : decode cX5_put 95 = .ok (.aload_n 0, 1) := by decide +kernel
theorem dX5_put_96 : decode cX5_put 96 = .ok (.getfield 19, 3) := by decide +kernel
theorem dX5_put_99 : decode cX5_put 99 = .ok (.getfield 105, 3) := by decide +kernel
theorem dX5_put_102 : decode cX5_put 102 = .ok (.iload_n 1, 1) := by decide +kernel
theorem dX5_put_103 : decode cX5_put 103 = .ok (.iload_n 3, 1) := by decide +kernel
theorem dX5_put_104 : decode cX5_put 104 = .ok (.invokestatic 165, 3) := by decide +kernel
theorem dX5_put_107 : decode cX5_put 107 = .ok (.aload_n 0, 1) := by decide +kernel
theorem dX5_put_108 : decode cX5_put 108 = .ok (.getfield 19, 3) := by decide +kernel
theorem dX5_put_111 : decode cX5_put 111 = .ok (.getfield 111, 3) := by decide +kernel
theorem dX5_put_114 : decode cX5_put 114 = .ok (.iload_n 1, 1) := by decide +kernel
theorem dX5_put_115 : decode cX5_put 115 = .ok (.iconst 0, 1) := by decide +kernel
theorem dX5_put_116 : decode cX5_put 116 = .ok (.invokestatic 165, 3) := by decide +kernel
theorem dX5_put_119 : decode cX5_put 119 = .ok (.iload 4, 2) := by decide +kernel
theorem dX5_put_121 : decode cX5_put 121 = .ok (.ireturn, 1) := by decide +kernel
theorem dX5_smell_0 : decode cX5_smell 0 = .ok (.aload_n 0, 1) := by decide +kernel
theorem dX5_smell_1 : decode cX5_smell 1 = .ok (.getfield 19, 3) := by decide +kernel
theorem dX5_smell_4 : decode cX5_smell 4 = .ok (.iload_n 1, 1) := by decide +kernel
theorem dX5_smell_5 : decode cX5_smell 5 = .ok (.invokevirtual 93, 3) := by decide +kernel
theorem dX5_smell_8 : decode cX5_smell 8 = .ok (.ifCond .eq 12, 3) := by decide +kernel
theorem dX5_smell_11 : decode cX5_smell 11 = .ok (.iload_n 2, 1) := by decide +kernel
theorem dX5_smell_12 : decode cX5_smell 12 = .ok (.iconst 0, 1) := by decide +kernel
theorem dX5_smell_13 : decode cX5_smell 13 = .ok (.iconst 5, 1) := by decide +kernel
theorem dX5_smell_14 : decode cX5_smell 14 = .ok (.invokestatic 75, 3) := by decide +kernel
theorem dX5_smell_17 : decode cX5_smell 17 = .ok (.ifCond .ne 5, 3) := by decide +kernel
theorem dX5_smell_20 : decode cX5_smell 20 = .ok (.iconst (-1), 1) := by decide +kernel
theorem dX5_smell_21 : decode cX5_smell 21 = .ok (.ireturn, 1) := by decide +kernel
theorem dX5_smell_22 : decode cX5_smell 22 = .ok (.aload_n 0, 1) := by decide +kernel
theorem dX5_smell_23 : decode cX5_smell 23 = .ok (.getfield 19, 3) := by decide +kernel
theorem dX5_smell_26 : decode cX5_smell 26 = .ok (.getfield 108, 3) := by decide +kernel
theorem dX5_smell_29 : decode cX5_smell 29 = .ok (.iload_n 1, 1) := by decide +kernel
theorem dX5_smell_30 : decode cX5_smell 30 = .ok (.invokestatic 99, 3) := by decide +kernel
theorem dX5_smell_33 : decode cX5_smell 33 = .ok (.istore_n 3, 1) := by decide +kernel
theorem dX5_smell_34 : decode cX5_smell 34 = .ok (.iload_n 3, 1) := by decide +kernel
theorem dX5_smell_35 : decode cX5_smell 35 = .ok (.iload_n 2, 1) := by decide +kernel
theorem dX5_smell_36 : decode cX5_smell 36 = .ok (.if_icmp .eq 17, 3) := by decide +kernel
theorem dX5_smell_39 : decode cX5_smell 39 = .ok (.aload_n 0, 1) := by decide +kernel
theorem dX5_smell_40 : decode cX5_smell 40 = .ok (.getfield 19, 3) := by decide +kernel
theorem dX5_smell_43 : decode cX5_smell 43 = .ok (.getfield 111, 3) := by decide +kernel
theorem dX5_smell_46 : decode cX5_smell 46 = .ok (.iload_n 1, 1) := by decide +kernel
theorem dX5_smell_47 : decode cX5_smell 47 = .ok (.invokestatic 99, 3) := by decide +kernel
theorem dX5_smell_50 : decode cX5_smell 50 = .ok (.ifCond .eq 6, 3) := by decide +kernel
theorem dX5_smell_53 : decode cX5_smell 53 = .ok (.bipush (-2), 2) := by decide +kernel
theorem dX5_smell_55 : decode cX5_smell 55 = .ok (.ireturn, 1) := by decide +kernel
theorem dX5_smell_56 : decode cX5_smell 56 = .ok (.aload_n 0, 1) := by decide +kernel
theorem dX5_smell_57 : decode cX5_smell 57 = .ok (.getfield 38, 3) := by decide +kernel
theorem dX5_smell_60 : decode cX5_smell 60 = .ok (.aload_n 0, 1) := by decide +kernel
theorem dX5_smell_61 : decode cX5_smell 61 = .ok (.getfield 19, 3) := by decide +kernel
theorem dX5_smell_64 : decode cX5_smell 64 = .ok (.invokevirtual 149, 3) := by decide +kernel
theorem dX5_smell_67 : decode cX5_smell 67 = .ok (.aload_n 0, 1) := by decide +kernel
theorem dX5_smell_68 : decode cX5_smell 68 = .ok (.getfield 19, 3) := by decide +kernel
theorem dX5_smell_71 : decode cX5_smell 71 = .ok (.getfield 108, 3) := by decide +kernel
theorem dX5_smell_74 : decode cX5_smell 74 = .ok (.iload_n 1, 1) := by decide +kernel
theorem dX5_smell_75 : decode cX5_smell 75 = .ok (.iload_n 2, 1) := by decide +kernel
theorem dX5_smell_76 : decode cX5_smell 76 = .ok (.invokestatic 165, 3) := by decide +kernel
theorem dX5_smell_79 : decode cX5_smell 79 = .ok (.iload_n 3, 1) := by decide +kernel
theorem dX5_smell_80 : decode cX5_smell 80 = .ok (.ireturn, 1) := by decide +kernel
theorem dX5_take_0 : decode cX5_take 0 = .ok (.aload_n 0, 1) := by decide +kernel
theorem dX5_take_1 : decode cX5_take 1 = .ok (.getfield 19, 3) := by decide +kernel
theorem dX5_take_4 : decode cX5_take 4 = .ok (.iload_n 1, 1) := by decide +kernel
theorem dX5_take_5 : decode cX5_take 5 = .ok (.invokevirtual 93, 3) := by decide +kernel
theorem dX5_take_8 : decode cX5_take 8 = .ok (.ifCond .ne 5, 3) := by decide +kernel
theorem dX5_take_11 : decode cX5_take 11 = .ok (.iconst (-1), 1) := by decide +kernel
theorem dX5_take_12 : decode cX5_take 12 = .ok (.ireturn, 1) := by decide +kernel
theorem dX5_take_13 : decode cX5_take 13 = .ok (.aload_n 0, 1) := by decide +kernel
theorem dX5_take_14 : decode cX5_take 14 = .ok (.getfield 19, 3) := by decide +kernel
theorem dX5_take_17 : decode cX5_take 17 = .ok (.getfield 111, 3) := by decide +kernel
theorem dX5_take_20 : decode cX5_take 20 = .ok (.iload_n 1, 1) := by decide +kernel
theorem dX5_take_21 : decode cX5_take 21 = .ok (.invokestatic 99, 3) := by decide +kernel
theorem dX5_take_24 : decode cX5_take 24 = .ok (.ifCond .eq 6, 3) := by decide +kernel
theorem dX5_take_27 : decode cX5_take 27 = .ok (.bipush (-2), 2) := by decide +kernel
theorem dX5_take_29 : decode cX5_take 29 = .ok (.ireturn, 1) := by decide +kernel
theorem dX5_take_30 : decode cX5_take 30 = .ok (.aload_n 0, 1) := by decide +kernel
theorem dX5_take_31 : decode cX5_take 31 = .ok (.getfield 38, 3) := by decide +kernel
theorem dX5_take_34 : decode cX5_take 34 = .ok (.aload_n 0, 1) := by decide +kernel
theorem dX5_take_35 : decode cX5_take 35 = .ok (.getfield 19, 3) := by decide +kernel
theorem dX5_take_38 : decode cX5_take 38 = .ok (.invokevirtual 149, 3) := by decide +kernel
theorem dX5_take_41 : decode cX5_take 41 = .ok (.aload_n 0, 1) := by decide +kernel
theorem dX5_take_42 : decode cX5_take 42 = .ok (.getfield 19, 3) := by decide +kernel
theorem dX5_take_45 : decode cX5_take 45 = .ok (.getfield 111, 3) := by decide +kernel
theorem dX5_take_48 : decode cX5_take 48 = .ok (.iload_n 1, 1) := by decide +kernel
theorem dX5_take_49 : decode cX5_take 49 = .ok (.iconst 1, 1) := by decide +kernel
theorem dX5_take_50 : decode cX5_take 50 = .ok (.invokestatic 165, 3) := by decide +kernel
theorem dX5_take_53 : decode cX5_take 53 = .ok (.aload_n 0, 1) := by decide +kernel
theorem dX5_take_54 : decode cX5_take 54 = .ok (.getfield 19, 3) := by decide +kernel
theorem dX5_take_57 : decode cX5_take 57 = .ok (.invokevirtual 169, 3) := by decide +kernel
theorem dX5_take_60 : decode cX5_take 60 = .ok (.invokestatic 172, 3) := by decide +kernel
theorem dX5_take_63 : decode cX5_take 63 = .ok (.ireturn, 1) := by decide +kernel
theorem dX5_undo_0 : decode cX5_undo 0 = .ok (.aload_n 0, 1) := by decide +kernel
theorem dX5_undo_1 : decode cX5_undo 1 = .ok (.getfield 38, 3) := by decide +kernel
theorem dX5_undo_4 : decode cX5_undo 4 = .ok (.aload_n 0, 1) := by decide +kernel
theorem dX5_undo_5 : decode cX5_undo 5 = .ok (.getfield 19, 3) := by decide +kernel
theorem dX5_undo_8 : decode cX5_undo 8 = .ok (.invokevirtual 177, 3) := by decide +kernel
theorem dX5_undo_11 : decode cX5_undo 11 = .ok (.ifCond .eq 13, 3) := by decide +kernel
theorem dX5_undo_14 : decode cX5_undo 14 = .ok (.aload_n 0, 1) := by decide +kernel
theorem dX5_undo_15 : decode cX5_undo 15 = .ok (.getfield 38, 3) := by decide +kernel
theorem dX5_undo_18 : decode cX5_undo 18 = .ok (.getfield 92, 3) := by decide +kernel
theorem dX5_undo_21 : decode cX5_undo 21 = .ok (.goto 5, 3) := by decide +kernel
theorem dX5_undo_24 : decode cX5_undo 24 = .ok (.bipush (-2), 2) := by decide +kernel
theorem dX5_undo_26 : decode cX5_undo 26 = .ok (.ireturn, 1) := by decide +kernel
theorem dX5_behind_0 : decode cX5_behind 0 = .ok (.iload_n 1, 1) := by decide +kernel
theorem dX5_behind_1 : decode cX5_behind 1 = .ok (.iconst 0, 1) := by decide +kernel
theorem dX5_behind_2 : decode cX5_behind 2 = .ok (.bipush 40, 2) := by decide +kernel
theorem dX5_behind_4 : decode cX5_behind 4 = .ok (.invokestatic 75, 3) := by decide +kernel
theorem dX5_behind_7 : decode cX5_behind 7 = .ok (.ifCond .eq 12, 3) := by decide +kernel
theorem dX5_behind_10 : decode cX5_behind 10 = .ok (.iload_n 2, 1) := by decide +kernel
theorem dX5_behind_11 : decode cX5_behind 11 = .ok (.iconst 0, 1) := by decide +kernel
theorem dX5_behind_12 : decode cX5_behind 12 = .ok (.iconst 1, 1) := by decide +kernel
theorem dX5_behind_13 : decode cX5_behind 13 = .ok (.invokestatic 75, 3) := by decide +kernel
theorem dX5_behind_16 : decode cX5_behind 16 = .ok (.ifCond .ne 5, 3) := by decide +kernel
theorem dX5_behind_19 : decode cX5_behind 19 = .ok (.iconst (-1), 1) := by decide +kernel
theorem dX5_behind_20 : decode cX5_behind 20 = .ok (.ireturn, 1) := by decide +kernel
theorem dX5_behind_21 : decode cX5_behind 21 = .ok (.aload_n 0, 1) := by decide +kernel
theorem dX5_behind_22 : decode cX5_behind 22 = .ok (.getfield 23, 3) := by decide +kernel
theorem dX5_behind_25 : decode cX5_behind 25 = .ok (.aload_n 0, 1) := by decide +kernel
theorem dX5_behind_26 : decode cX5_behind 26 = .ok (.getfield 19, 3) := by decide +kernel
theorem dX5_behind_29 : decode cX5_behind 29 = .ok (.invokevirtual 85, 3) := by decide +kernel
theorem dX5_behind_32 : decode cX5_behind 32 = .ok (.aload_n 0, 1) := by decide +kernel
theorem dX5_behind_33 : decode cX5_behind 33 = .ok (.getfield 23, 3) := by decide +kernel
theorem dX5_behind_36 : decode cX5_behind 36 = .ok (.iload_n 1, 1) := by decide +kernel
theorem dX5_behind_37 : decode cX5_behind 37 = .ok (.invokevirtual 152, 3) := by decide +kernel
theorem dX5_behind_40 : decode cX5_behind 40 = .ok (.pop, 1) := by decide +kernel
theorem dX5_behind_41 : decode cX5_behind 41 = .ok (.iload_n 2, 1) := by decide +kernel
theorem dX5_behind_42 : decode cX5_behind 42 = .ok (.ifCond .ne 13, 3) := by decide +kernel
theorem dX5_behind_45 : decode cX5_behind 45 = .ok (.aload_n 0, 1) := by decide +kernel
theorem dX5_behind_46 : decode cX5_behind 46 = .ok (.getfield 23, 3) := by decide +kernel
theorem dX5_behind_49 : decode cX5_behind 49 = .ok (.getfield 181, 3) := by decide +kernel
theorem dX5_behind_52 : decode cX5_behind 52 = .ok (.goto 10, 3) := by decide +kernel
theorem dX5_behind_55 : decode cX5_behind 55 = .ok (.aload_n 0, 1) := by decide +kernel
theorem dX5_behind_56 : decode cX5_behind 56 = .ok (.getfield 23, 3) := by decide +kernel
theorem dX5_behind_59 : decode cX5_behind 59 = .ok (.getfield 184, 3) := by decide +kernel
theorem dX5_behind_62 : decode cX5_behind 62 = .ok (.ireturn, 1) := by decide +kernel
theorem dX5_stands_0 : decode cX5_stands 0 = .ok (.aload_n 0, 1) := by decide +kernel
theorem dX5_stands_1 : decode cX5_stands 1 = .ok (.getfield 23, 3) := by decide +kernel
theorem dX5_stands_4 : decode cX5_stands 4 = .ok (.aload_n 0, 1) := by decide +kernel
theorem dX5_stands_5 : decode cX5_stands 5 = .ok (.getfield 19, 3) := by decide +kernel
theorem dX5_stands_8 : decode cX5_stands 8 = .ok (.invokevirtual 85, 3) := by decide +kernel
theorem dX5_stands_11 : decode cX5_stands 11 = .ok (.iconst 0, 1) := by decide +kernel
theorem dX5_stands_12 : decode cX5_stands 12 = .ok (.istore_n 1, 1) := by decide +kernel
theorem dX5_stands_13 : decode cX5_stands 13 = .ok (.iload_n 1, 1) := by decide +kernel
theorem dX5_stands_14 : decode cX5_stands 14 = .ok (.bipush 40, 2) := by decide +kernel
theorem dX5_stands_16 : decode cX5_stands 16 = .ok (.if_icmp .gt 22, 3) := by decide +kernel
theorem dX5_stands_19 : decode cX5_stands 19 = .ok (.aload_n 0, 1) := by decide +kernel
theorem dX5_stands_20 : decode cX5_stands 20 = .ok (.getfield 23, 3) := by decide +kernel
theorem dX5_stands_23 : decode cX5_stands 23 = .ok (.iconst 1, 1) := by decide +kernel
theorem dX5_stands_24 : decode cX5_stands 24 = .ok (.invokevirtual 152, 3) := by decide +kernel
theorem dX5_stands_27 : decode cX5_stands 27 = .ok (.ifCond .le 5, 3) := by decide +kernel
theorem dX5_stands_30 : decode cX5_stands 30 = .ok (.iload_n 1, 1) := by decide +kernel
theorem dX5_stands_31 : decode cX5_stands 31 = .ok (.ireturn, 1) := by decide +kernel
theorem dX5_stands_32 : decode cX5_stands 32 = .ok (.iinc 1 1, 3) := by decide +kernel
theorem dX5_stands_35 : decode cX5_stands 35 = .ok (.goto (-22), 3) := by decide +kernel
theorem dX5_stands_38 : decode cX5_stands 38 = .ok (.bipush (-4), 2) := by decide +kernel
theorem dX5_stands_40 : decode cX5_stands 40 = .ok (.ireturn, 1) := by decide +kernel
theorem dX5_gale_0 : decode cX5_gale 0 = .ok (.iload_n 1, 1) := by decide +kernel
theorem dX5_gale_1 : decode cX5_gale 1 = .ok (.iconst 1, 1) := by decide +kernel
theorem dX5_gale_2 : decode cX5_gale 2 = .ok (.iconst 4, 1) := by decide +kernel
theorem dX5_gale_3 : decode cX5_gale 3 = .ok (.invokestatic 75, 3) := by decide +kernel
theorem dX5_gale_6 : decode cX5_gale 6 = .ok (.ifCond .ne 5, 3) := by decide +kernel
theorem dX5_gale_9 : decode cX5_gale 9 = .ok (.iconst (-1), 1) := by decide +kernel
theorem dX5_gale_10 : decode cX5_gale 10 = .ok (.ireturn, 1) := by decide +kernel
theorem dX5_gale_11 : decode cX5_gale 11 = .ok (.aload_n 0, 1) := by decide +kernel
theorem dX5_gale_12 : decode cX5_gale 12 = .ok (.getfield 23, 3) := by decide +kernel
theorem dX5_gale_15 : decode cX5_gale 15 = .ok (.aload_n 0, 1) := by decide +kernel
theorem dX5_gale_16 : decode cX5_gale 16 = .ok (.getfield 19, 3) := by decide +kernel
theorem dX5_gale_19 : decode cX5_gale 19 = .ok (.invokevirtual 85, 3) := by decide +kernel
theorem dX5_gale_22 : decode cX5_gale 22 = .ok (.aload_n 0, 1) := by decide +kernel
theorem dX5_gale_23 : decode cX5_gale 23 = .ok (.getfield 23, 3) := by decide +kernel
theorem dX5_gale_26 : decode cX5_gale 26 = .ok (.iload_n 1, 1) := by decide +kernel
theorem dX5_gale_27 : decode cX5_gale 27 = .ok (.putfield 158, 3) := by decide +kernel
theorem dX5_gale_30 : decode cX5_gale 30 = .ok (.bipush 20, 2) := by decide +kernel
theorem dX5_gale_32 : decode cX5_gale 32 = .ok (.istore_n 2, 1) := by decide +kernel
theorem dX5_gale_33 : decode cX5_gale 33 = .ok (.iload_n 2, 1) := by decide +kernel
theorem dX5_gale_34 : decode cX5_gale 34 = .ok (.ifCond .lt 29, 3) := by decide +kernel
theorem dX5_gale_37 : decode cX5_gale 37 = .ok (.aload_n 0, 1) := by decide +kernel
theorem dX5_gale_38 : decode cX5_gale 38 = .ok (.getfield 23, 3) := by decide +kernel
theorem dX5_gale_41 : decode cX5_gale 41 = .ok (.iload_n 2, 1) := by decide +kernel
theorem dX5_gale_42 : decode cX5_gale 42 = .ok (.putfield 155, 3) := by decide +kernel
theorem dX5_gale_45 : decode cX5_gale 45 = .ok (.aload_n 0, 1) := by decide +kernel
theorem dX5_gale_46 : decode cX5_gale 46 = .ok (.getfield 23, 3) := by decide +kernel
theorem dX5_gale_49 : decode cX5_gale 49 = .ok (.invokevirtual 137, 3) := by decide +kernel
theorem dX5_gale_52 : decode cX5_gale 52 = .ok (.ifCond .ne 5, 3) := by decide +kernel
theorem dX5_gale_55 : decode cX5_gale 55 = .ok (.iload_n 2, 1) := by decide +kernel
theorem dX5_gale_56 : decode cX5_gale 56 = .ok (.ireturn, 1) := by decide +kernel
theorem dX5_gale_57 : decode cX5_gale 57 = .ok (.iinc 2 (-1), 3) := by decide +kernel
theorem dX5_gale_60 : decode cX5_gale 60 = .ok (.goto (-27), 3) := by decide +kernel
theorem dX5_gale_63 : decode cX5_gale 63 = .ok (.bipush (-4), 2) := by decide +kernel
theorem dX5_gale_65 : decode cX5_gale 65 = .ok (.ireturn, 1) := by decide +kernel
theorem dX5_hold_0 : decode cX5_hold 0 = .ok (.aload_n 0, 1) := by decide +kernel
theorem dX5_hold_1 : decode cX5_hold 1 = .ok (.getfield 19, 3) := by decide +kernel
theorem dX5_hold_4 : decode cX5_hold 4 = .ok (.invokevirtual 137, 3) := by decide +kernel
theorem dX5_hold_7 : decode cX5_hold 7 = .ok (.ifCond .ne 6, 3) := by decide +kernel
theorem dX5_hold_10 : decode cX5_hold 10 = .ok (.bipush (-4), 2) := by decide +kernel
theorem dX5_hold_12 : decode cX5_hold 12 = .ok (.ireturn, 1) := by decide +kernel
theorem dX5_hold_13 : decode cX5_hold 13 = .ok (.aload_n 0, 1) := by decide +kernel
theorem dX5_hold_14 : decode cX5_hold 14 = .ok (.getfield 23, 3) := by decide +kernel
theorem dX5_hold_17 : decode cX5_hold 17 = .ok (.aload_n 0, 1) := by decide +kernel
theorem dX5_hold_18 : decode cX5_hold 18 = .ok (.getfield 19, 3) := by decide +kernel
theorem dX5_hold_21 : decode cX5_hold 21 = .ok (.invokevirtual 85, 3) := by decide +kernel
theorem dX5_hold_24 : decode cX5_hold 24 = .ok (.aload_n 0, 1) := by decide +kernel
theorem dX5_hold_25 : decode cX5_hold 25 = .ok (.getfield 23, 3) := by decide +kernel
theorem dX5_hold_28 : decode cX5_hold 28 = .ok (.getfield 79, 3) := by decide +kernel
theorem dX5_hold_31 : decode cX5_hold 31 = .ok (.istore_n 1, 1) := by decide +kernel
theorem dX5_hold_32 : decode cX5_hold 32 = .ok (.aload_n 0, 1) := by decide +kernel
theorem dX5_hold_33 : decode cX5_hold 33 = .ok (.getfield 23, 3) := by decide +kernel
theorem dX5_hold_36 : decode cX5_hold 36 = .ok (.iconst 0, 1) := by decide +kernel
theorem dX5_hold_37 : decode cX5_hold 37 = .ok (.iconst 0, 1) := by decide +kernel
theorem dX5_hold_38 : decode cX5_hold 38 = .ok (.iconst 0, 1) := by decide +kernel
theorem dX5_hold_39 : decode cX5_hold 39 = .ok (.invokevirtual 187, 3) := by decide +kernel
theorem dX5_hold_42 : decode cX5_hold 42 = .ok (.iconst 0, 1) := by decide +kernel
theorem dX5_hold_43 : decode cX5_hold 43 = .ok (.istore_n 2, 1) := by decide +kernel
theorem dX5_hold_44 : decode cX5_hold 44 = .ok (.iload_n 2, 1) := by decide +kernel
theorem dX5_hold_45 : decode cX5_hold 45 = .ok (.iconst 5, 1) := by decide +kernel
theorem dX5_hold_46 : decode cX5_hold 46 = .ok (.if_icmp .gt 82, 3) := by decide +kernel
theorem dX5_hold_49 : decode cX5_hold 49 = .ok (.iconst 0, 1) := by decide +kernel
theorem dX5_hold_50 : decode cX5_hold 50 = .ok (.istore_n 3, 1) := by decide +kernel
theorem dX5_hold_51 : decode cX5_hold 51 = .ok (.iload_n 3, 1) := by decide +kernel
theorem dX5_hold_52 : decode cX5_hold 52 = .ok (.bipush 8, 2) := by decide +kernel
theorem dX5_hold_54 : decode cX5_hold 54 = .ok (.if_icmp .gt 68, 3) := by decide +kernel
theorem dX5_hold_57 : decode cX5_hold 57 = .ok (.iconst 0, 1) := by decide +kernel
theorem dX5_hold_58 : decode cX5_hold 58 = .ok (.istore 4, 2) := by decide +kernel
theorem dX5_hold_60 : decode cX5_hold 60 = .ok (.iload 4, 2) := by decide +kernel
theorem dX5_hold_62 : decode cX5_hold 62 = .ok (.bipush 8, 2) := by decide +kernel
theorem dX5_hold_64 : decode cX5_hold 64 = .ok (.if_icmp .gt 52, 3) := by decide +kernel
theorem dX5_hold_67 : decode cX5_hold 67 = .ok (.aload_n 0, 1) := by decide +kernel
theorem dX5_hold_68 : decode cX5_hold 68 = .ok (.getfield 23, 3) := by decide +kernel
theorem dX5_hold_71 : decode cX5_hold 71 = .ok (.iload_n 1, 1) := by decide +kernel
theorem dX5_hold_72 : decode cX5_hold 72 = .ok (.iload 4, 2) := by decide +kernel
theorem dX5_hold_74 : decode cX5_hold 74 = .ok (.iload_n 3, 1) := by decide +kernel
theorem dX5_hold_75 : decode cX5_hold 75 = .ok (.iload_n 2, 1) := by decide +kernel
theorem dX5_hold_76 : decode cX5_hold 76 = .ok (.invokevirtual 191, 3) := by decide +kernel
theorem dX5_hold_79 : decode cX5_hold 79 = .ok (.aload_n 0, 1) := by decide +kernel
theorem dX5_hold_80 : decode cX5_hold 80 = .ok (.getfield 19, 3) := by decide +kernel
theorem dX5_hold_83 : decode cX5_hold 83 = .ok (.iload 4, 2) := by decide +kernel
theorem dX5_hold_85 : decode cX5_hold 85 = .ok (.iload_n 3, 1) := by decide +kernel
theorem dX5_hold_86 : decode cX5_hold 86 = .ok (.invokevirtual 195, 3) := by decide +kernel
theorem dX5_hold_89 : decode cX5_hold 89 = .ok (.ifCond .ne 21, 3) := by decide +kernel
theorem dX5_hold_92 : decode cX5_hold 92 = .ok (.aload_n 0, 1) := by decide +kernel
theorem dX5_hold_93 : decode cX5_hold 93 = .ok (.getfield 23, 3) := by decide +kernel
theorem dX5_hold_96 : decode cX5_hold 96 = .ok (.invokevirtual 137, 3) := by decide +kernel
theorem dX5_hold_99 : decode cX5_hold 99 = .ok (.ifCond .ne 11, 3) := by decide +kernel
theorem dX5_hold_102 : decode cX5_hold 102 = .ok (.iload_n 2, 1) := by decide +kernel
theorem dX5_hold_103 : decode cX5_hold 103 = .ok (.iload_n 3, 1) := by decide +kernel
theorem dX5_hold_104 : decode cX5_hold 104 = .ok (.iload 4, 2) := by decide +kernel
theorem dX5_hold_106 : decode cX5_hold 106 = .ok (.invokestatic 198, 3) := by decide +kernel
theorem dX5_hold_109 : decode cX5_hold 109 = .ok (.ireturn, 1) := by decide +kernel
theorem dX5_hold_110 : decode cX5_hold 110 = .ok (.iinc 4 1, 3) := by decide +kernel
theorem dX5_hold_113 : decode cX5_hold 113 = .ok (.goto (-53), 3) := by decide +kernel
theorem dX5_hold_116 : decode cX5_hold 116 = .ok (.iinc 3 1, 3) := by decide +kernel
theorem dX5_hold_119 : decode cX5_hold 119 = .ok (.goto (-68), 3) := by decide +kernel
theorem dX5_hold_122 : decode cX5_hold 122 = .ok (.iinc 2 1, 3) := by decide +kernel
theorem dX5_hold_125 : decode cX5_hold 125 = .ok (.goto (-81), 3) := by decide +kernel
theorem dX5_hold_128 : decode cX5_hold 128 = .ok (.bipush (-4), 2) := by decide +kernel
theorem dX5_hold_130 : decode cX5_hold 130 = .ok (.ireturn, 1) := by decide +kernel
theorem dX5_brings_0 : decode cX5_brings 0 = .ok (.iload_n 1, 1) := by decide +kernel
theorem dX5_brings_1 : decode cX5_brings 1 = .ok (.iload_n 2, 1) := by decide +kernel
theorem dX5_brings_2 : decode cX5_brings 2 = .ok (.invokestatic 161, 3) := by decide +kernel
theorem dX5_brings_5 : decode cX5_brings 5 = .ok (.ifCond .eq 12, 3) := by decide +kernel
theorem dX5_brings_8 : decode cX5_brings 8 = .ok (.iload_n 3, 1) := by decide +kernel
theorem dX5_brings_9 : decode cX5_brings 9 = .ok (.iconst 0, 1) := by decide +kernel
theorem dX5_brings_10 : decode cX5_brings 10 = .ok (.iconst 1, 1) := by decide +kernel
theorem dX5_brings_11 : decode cX5_brings 11 = .ok (.invokestatic 75, 3) := by decide +kernel
theorem dX5_brings_14 : decode cX5_brings 14 = .ok (.ifCond .ne 5, 3) := by decide +kernel
theorem dX5_brings_17 : decode cX5_brings 17 = .ok (.iconst (-1), 1) := by decide +kernel
theorem dX5_brings_18 : decode cX5_brings 18 = .ok (.ireturn, 1) := by decide +kernel
theorem dX5_brings_19 : decode cX5_brings 19 = .ok (.aload_n 0, 1) := by decide +kernel
theorem dX5_brings_20 : decode cX5_brings 20 = .ok (.getfield 19, 3) := by decide +kernel
theorem dX5_brings_23 : decode cX5_brings 23 = .ok (.iload_n 1, 1) := by decide +kernel
theorem dX5_brings_24 : decode cX5_brings 24 = .ok (.iload_n 2, 1) := by decide +kernel
theorem dX5_brings_25 : decode cX5_brings 25 = .ok (.invokevirtual 195, 3) := by decide +kernel
theorem dX5_brings_28 : decode cX5_brings 28 = .ok (.ifCond .eq 6, 3) := by decide +kernel
theorem dX5_brings_31 : decode cX5_brings 31 = .ok (.bipush (-4), 2) := by decide +kernel
theorem dX5_brings_33 : decode cX5_brings 33 = .ok (.ireturn, 1) := by decide +kernel
theorem dX5_brings_34 : decode cX5_brings 34 = .ok (.aload_n 0, 1) := by decide +kernel
theorem dX5_brings_35 : decode cX5_brings 35 = .ok (.getfield 23, 3) := by decide +kernel
theorem dX5_brings_38 : decode cX5_brings 38 = .ok (.aload_n 0, 1) := by decide +kernel
theorem dX5_brings_39 : decode cX5_brings 39 = .ok (.getfield 19, 3) := by decide +kernel
theorem dX5_brings_42 : decode cX5_brings 42 = .ok (.invokevirtual 85, 3) := by decide +kernel
theorem dX5_brings_45 : decode cX5_brings 45 = .ok (.aload_n 0, 1) := by decide +kernel
theorem dX5_brings_46 : decode cX5_brings 46 = .ok (.getfield 23, 3) := by decide +kernel
theorem dX5_brings_49 : decode cX5_brings 49 = .ok (.getfield 79, 3) := by decide +kernel
theorem dX5_brings_52 : decode cX5_brings 52 = .ok (.istore 4, 2) := by decide +kernel
theorem dX5_brings_54 : decode cX5_brings 54 = .ok (.aload_n 0, 1) := by decide +kernel
theorem dX5_brings_55 : decode cX5_brings 55 = .ok (.getfield 23, 3) := by decide +kernel
theorem dX5_brings_58 : decode cX5_brings 58 = .ok (.iconst 0, 1) := by decide +kernel
theorem dX5_brings_59 : decode cX5_brings 59 = .ok (.iconst 0, 1) := by decide +kernel
theorem dX5_brings_60 : decode cX5_brings 60 = .ok (.iconst 0, 1) := by decide +kernel
theorem dX5_brings_61 : decode cX5_brings 61 = .ok (.invokevirtual 187, 3) := by decide +kernel
theorem dX5_brings_64 : decode cX5_brings 64 = .ok (.bipush 41, 2) := by decide +kernel
theorem dX5_brings_66 : decode cX5_brings 66 = .ok (.istore 5, 2) := by decide +kernel
theorem dX5_brings_68 : decode cX5_brings 68 = .ok (.bipush (-4), 2) := by decide +kernel
theorem dX5_brings_70 : decode cX5_brings 70 = .ok (.istore 6, 2) := by decide +kernel
theorem dX5_brings_72 : decode cX5_brings 72 = .ok (.iconst 0, 1) := by decide +kernel
theorem dX5_brings_73 : decode cX5_brings 73 = .ok (.istore 7, 2) := by decide +kernel
theorem dX5_brings_75 : decode cX5_brings 75 = .ok (.iload 7, 2) := by decide +kernel
theorem dX5_brings_77 : decode cX5_brings 77 = .ok (.iconst 5, 1) := by decide +kernel
theorem dX5_brings_78 : decode cX5_brings 78 = .ok (.if_icmp .gt 108, 3) := by decide +kernel
theorem dX5_brings_81 : decode cX5_brings 81 = .ok (.iconst 0, 1) := by decide +kernel
theorem dX5_brings_82 : decode cX5_brings 82 = .ok (.istore 8, 2) := by decide +kernel
theorem dX5_brings_84 : decode cX5_brings 84 = .ok (.iload 8, 2) := by decide +kernel
theorem dX5_brings_86 : decode cX5_brings 86 = .ok (.bipush 81, 2) := by decide +kernel
theorem dX5_brings_88 : decode cX5_brings 88 = .ok (.if_icmp .ge 92, 3) := by decide +kernel
theorem dX5_brings_91 : decode cX5_brings 91 = .ok (.aload_n 0, 1) := by decide +kernel
theorem dX5_brings_92 : decode cX5_brings 92 = .ok (.getfield 23, 3) := by decide +kernel
theorem dX5_brings_95 : decode cX5_brings 95 = .ok (.iload 4, 2) := by decide +kernel
theorem dX5_brings_97 : decode cX5_brings 97 = .ok (.iload 8, 2) := by decide +kernel
theorem dX5_brings_99 : decode cX5_brings 99 = .ok (.bipush 9, 2) := by decide +kernel
theorem dX5_brings_101 : decode cX5_brings 101 = .ok (.irem, 1) := by decide +kernel
theorem dX5_brings_102 : decode cX5_brings 102 = .ok (.iload 8, 2) := by decide +kernel
theorem dX5_brings_104 : decode cX5_brings 104 = .ok (.bipush 9, 2) := by decide +kernel
theorem dX5_brings_106 : decode cX5_brings 106 = .ok (.idiv, 1) := by decide +kernel
theorem dX5_brings_107 : decode cX5_brings 107 = .ok (.iload 7, 2) := by decide +kernel
theorem dX5_brings_109 : decode cX5_brings 109 = .ok (.invokevirtual 191, 3) := by decide +kernel
theorem dX5_brings_112 : decode cX5_brings 112 = .ok (.aload_n 0, 1) := by decide +kernel
theorem dX5_brings_113 : decode cX5_brings 113 = .ok (.getfield 23, 3) := by decide +kernel
theorem dX5_brings_116 : decode cX5_brings 116 = .ok (.aload_n 0, 1) := by decide +kernel
theorem dX5_brings_117 : decode cX5_brings 117 = .ok (.getfield 19, 3) := by decide +kernel
theorem dX5_brings_120 : decode cX5_brings 120 = .ok (.getfield 181, 3) := by decide +kernel
theorem dX5_brings_123 : decode cX5_brings 123 = .ok (.aload_n 0, 1) := by decide +kernel
theorem dX5_brings_124 : decode cX5_brings 124 = .ok (.getfield 19, 3) := by decide +kernel
theorem dX5_brings_127 : decode cX5_brings 127 = .ok (.getfield 184, 3) := by decide +kernel
theorem dX5_brings_130 : decode cX5_brings 130 = .ok (.invokevirtual 202, 3) := by decide +kernel
theorem dX5_brings_133 : decode cX5_brings 133 = .ok (.aload_n 0, 1) := by decide +kernel
theorem dX5_brings_134 : decode cX5_brings 134 = .ok (.getfield 23, 3) := by decide +kernel
theorem dX5_brings_137 : decode cX5_brings 137 = .ok (.iload_n 1, 1) := by decide +kernel
theorem dX5_brings_138 : decode cX5_brings 138 = .ok (.iload_n 2, 1) := by decide +kernel
theorem dX5_brings_139 : decode cX5_brings 139 = .ok (.iload 5, 2) := by decide +kernel
theorem dX5_brings_141 : decode cX5_brings 141 = .ok (.iconst 1, 1) := by decide +kernel
theorem dX5_brings_142 : decode cX5_brings 142 = .ok (.isub, 1) := by decide +kernel
theorem dX5_brings_143 : decode cX5_brings 143 = .ok (.invokevirtual 206, 3) := by decide +kernel
theorem dX5_brings_146 : decode cX5_brings 146 = .ok (.istore 9, 2) := by decide +kernel
theorem dX5_brings_148 : decode cX5_brings 148 = .ok (.iload 9, 2) := by decide +kernel
theorem dX5_brings_150 : decode cX5_brings 150 = .ok (.ifCond .le 24, 3) := by decide +kernel
theorem dX5_brings_153 : decode cX5_brings 153 = .ok (.iload 9, 2) := by decide +kernel
theorem dX5_brings_155 : decode cX5_brings 155 = .ok (.istore 5, 2) := by decide +kernel
theorem dX5_brings_157 : decode cX5_brings 157 = .ok (.iload 7, 2) := by decide +kernel
theorem dX5_brings_159 : decode cX5_brings 159 = .ok (.iload 8, 2) := by decide +kernel
theorem dX5_brings_161 : decode cX5_brings 161 = .ok (.bipush 9, 2) := by decide +kernel
theorem dX5_brings_163 : decode cX5_brings 163 = .ok (.idiv, 1) := by decide +kernel
theorem dX5_brings_164 : decode cX5_brings 164 = .ok (.iload 8, 2) := by decide +kernel
theorem dX5_brings_166 : decode cX5_brings 166 = .ok (.bipush 9, 2) := by decide +kernel
theorem dX5_brings_168 : decode cX5_brings 168 = .ok (.irem, 1) := by decide +kernel
theorem dX5_brings_169 : decode cX5_brings 169 = .ok (.invokestatic 198, 3) := by decide +kernel
theorem dX5_brings_172 : decode cX5_brings 172 = .ok (.istore 6, 2) := by decide +kernel
theorem dX5_brings_174 : decode cX5_brings 174 = .ok (.iinc 8 1, 3) := by decide +kernel
theorem dX5_brings_177 : decode cX5_brings 177 = .ok (.goto (-93), 3) := by decide +kernel
theorem dX5_brings_180 : decode cX5_brings 180 = .ok (.iinc 7 1, 3) := by decide +kernel
theorem dX5_brings_183 : decode cX5_brings 183 = .ok (.goto (-108), 3) := by decide +kernel
theorem dX5_brings_186 : decode cX5_brings 186 = .ok (.iload 6, 2) := by decide +kernel
theorem dX5_brings_188 : decode cX5_brings 188 = .ok (.bipush (-4), 2) := by decide +kernel
theorem dX5_brings_190 : decode cX5_brings 190 = .ok (.if_icmp .eq 7, 3) := by decide +kernel
theorem dX5_brings_193 : decode cX5_brings 193 = .ok (.iload_n 3, 1) := by decide +kernel
theorem dX5_brings_194 : decode cX5_brings 194 = .ok (.ifCond .ne 8, 3) := by decide +kernel
theorem dX5_brings_197 : decode cX5_brings 197 = .ok (.iload 6, 2) := by decide +kernel
theorem dX5_brings_199 : decode cX5_brings 199 = .ok (.goto 5, 3) := by decide +kernel
theorem dX5_brings_202 : decode cX5_brings 202 = .ok (.iload 5, 2) := by decide +kernel
theorem dX5_brings_204 : decode cX5_brings 204 = .ok (.ireturn, 1) := by decide +kernel
theorem dX5_keeps_0 : decode cX5_keeps 0 = .ok (.iload_n 1, 1) := by decide +kernel
theorem dX5_keeps_1 : decode cX5_keeps 1 = .ok (.iconst 0, 1) := by decide +kernel
theorem dX5_keeps_2 : decode cX5_keeps 2 = .ok (.iconst 1, 1) := by decide +kernel
theorem dX5_keeps_3 : decode cX5_keeps 3 = .ok (.invokestatic 75, 3) := by decide +kernel
theorem dX5_keeps_6 : decode cX5_keeps 6 = .ok (.ifCond .ne 5, 3) := by decide +kernel
theorem dX5_keeps_9 : decode cX5_keeps 9 = .ok (.iconst (-1), 1) := by decide +kernel
theorem dX5_keeps_10 : decode cX5_keeps 10 = .ok (.ireturn, 1) := by decide +kernel
theorem dX5_keeps_11 : decode cX5_keeps 11 = .ok (.aload_n 0, 1) := by decide +kernel
theorem dX5_keeps_12 : decode cX5_keeps 12 = .ok (.getfield 23, 3) := by decide +kernel
theorem dX5_keeps_15 : decode cX5_keeps 15 = .ok (.aload_n 0, 1) := by decide +kernel
theorem dX5_keeps_16 : decode cX5_keeps 16 = .ok (.getfield 19, 3) := by decide +kernel
theorem dX5_keeps_19 : decode cX5_keeps 19 = .ok (.invokevirtual 85, 3) := by decide +kernel
theorem dX5_keeps_22 : decode cX5_keeps 22 = .ok (.aload_n 0, 1) := by decide +kernel
theorem dX5_keeps_23 : decode cX5_keeps 23 = .ok (.getfield 23, 3) := by decide +kernel
theorem dX5_keeps_26 : decode cX5_keeps 26 = .ok (.bipush 10, 2) := by decide +kernel
theorem dX5_keeps_28 : decode cX5_keeps 28 = .ok (.invokevirtual 152, 3) := by decide +kernel
theorem dX5_keeps_31 : decode cX5_keeps 31 = .ok (.pop, 1) := by decide +kernel
theorem dX5_keeps_32 : decode cX5_keeps 32 = .ok (.aload_n 0, 1) := by decide +kernel
theorem dX5_keeps_33 : decode cX5_keeps 33 = .ok (.getfield 23, 3) := by decide +kernel
theorem dX5_keeps_36 : decode cX5_keeps 36 = .ok (.getfield 181, 3) := by decide +kernel
theorem dX5_keeps_39 : decode cX5_keeps 39 = .ok (.istore_n 2, 1) := by decide +kernel
theorem dX5_keeps_40 : decode cX5_keeps 40 = .ok (.aload_n 0, 1) := by decide +kernel
theorem dX5_keeps_41 : decode cX5_keeps 41 = .ok (.getfield 23, 3) := by decide +kernel
theorem dX5_keeps_44 : decode cX5_keeps 44 = .ok (.getfield 184, 3) := by decide +kernel
theorem dX5_keeps_47 : decode cX5_keeps 47 = .ok (.istore_n 3, 1) := by decide +kernel
theorem dX5_keeps_48 : decode cX5_keeps 48 = .ok (.aload_n 0, 1) := by decide +kernel
theorem dX5_keeps_49 : decode cX5_keeps 49 = .ok (.getfield 19, 3) := by decide +kernel
theorem dX5_keeps_52 : decode cX5_keeps 52 = .ok (.invokevirtual 169, 3) := by decide +kernel
theorem dX5_keeps_55 : decode cX5_keeps 55 = .ok (.istore 4, 2) := by decide +kernel
theorem dX5_keeps_57 : decode cX5_keeps 57 = .ok (.iload 4, 2) := by decide +kernel
theorem dX5_keeps_59 : decode cX5_keeps 59 = .ok (.istore 5, 2) := by decide +kernel
theorem dX5_keeps_61 : decode cX5_keeps 61 = .ok (.iconst 0, 1) := by decide +kernel
theorem dX5_keeps_62 : decode cX5_keeps 62 = .ok (.istore 6, 2) := by decide +kernel
theorem dX5_keeps_64 : decode cX5_keeps 64 = .ok (.iload 6, 2) := by decide +kernel
theorem dX5_keeps_66 : decode cX5_keeps 66 = .ok (.iload 4, 2) := by decide +kernel
theorem dX5_keeps_68 : decode cX5_keeps 68 = .ok (.if_icmp .ge 59, 3) := by decide +kernel
theorem dX5_keeps_71 : decode cX5_keeps 71 = .ok (.iload 6, 2) := by decide +kernel
theorem dX5_keeps_73 : decode cX5_keeps 73 = .ok (.invokestatic 172, 3) := by decide +kernel
theorem dX5_keeps_76 : decode cX5_keeps 76 = .ok (.iload 5, 2) := by decide +kernel
theorem dX5_keeps_78 : decode cX5_keeps 78 = .ok (.invokestatic 172, 3) := by decide +kernel
theorem dX5_keeps_81 : decode cX5_keeps 81 = .ok (.if_icmp .ge 7, 3) := by decide +kernel
theorem dX5_keeps_84 : decode cX5_keeps 84 = .ok (.iconst 1, 1) := by decide +kernel
theorem dX5_keeps_85 : decode cX5_keeps 85 = .ok (.goto 4, 3) := by decide +kernel
theorem dX5_keeps_88 : decode cX5_keeps 88 = .ok (.iconst 0, 1) := by decide +kernel
theorem dX5_keeps_89 : decode cX5_keeps 89 = .ok (.istore 7, 2) := by decide +kernel
theorem dX5_keeps_91 : decode cX5_keeps 91 = .ok (.iload 7, 2) := by decide +kernel
theorem dX5_keeps_93 : decode cX5_keeps 93 = .ok (.ifCond .eq 28, 3) := by decide +kernel
theorem dX5_keeps_96 : decode cX5_keeps 96 = .ok (.iload 6, 2) := by decide +kernel
theorem dX5_keeps_98 : decode cX5_keeps 98 = .ok (.iload 4, 2) := by decide +kernel
theorem dX5_keeps_100 : decode cX5_keeps 100 = .ok (.iconst (-1), 1) := by decide +kernel
theorem dX5_keeps_101 : decode cX5_keeps 101 = .ok (.ixor, 1) := by decide +kernel
theorem dX5_keeps_102 : decode cX5_keeps 102 = .ok (.iand, 1) := by decide +kernel
theorem dX5_keeps_103 : decode cX5_keeps 103 = .ok (.ifCond .ne 18, 3) := by decide +kernel
theorem dX5_keeps_106 : decode cX5_keeps 106 = .ok (.aload_n 0, 1) := by decide +kernel
theorem dX5_keeps_107 : decode cX5_keeps 107 = .ok (.iload 6, 2) := by decide +kernel
theorem dX5_keeps_109 : decode cX5_keeps 109 = .ok (.iload_n 2, 1) := by decide +kernel
theorem dX5_keeps_110 : decode cX5_keeps 110 = .ok (.iload_n 3, 1) := by decide +kernel
theorem dX5_keeps_111 : decode cX5_keeps 111 = .ok (.invokevirtual 209, 3) := by decide +kernel
theorem dX5_keeps_114 : decode cX5_keeps 114 = .ok (.ifCond .eq 7, 3) := by decide +kernel
theorem dX5_keeps_117 : decode cX5_keeps 117 = .ok (.iload 6, 2) := by decide +kernel
theorem dX5_keeps_119 : decode cX5_keeps 119 = .ok (.istore 5, 2) := by decide +kernel
theorem dX5_keeps_121 : decode cX5_keeps 121 = .ok (.iinc 6 1, 3) := by decide +kernel
theorem dX5_keeps_124 : decode cX5_keeps 124 = .ok (.goto (-60), 3) := by decide +kernel
theorem dX5_keeps_127 : decode cX5_keeps 127 = .ok (.iload_n 1, 1) := by decide +kernel
theorem dX5_keeps_128 : decode cX5_keeps 128 = .ok (.ifCond .ne 11, 3) := by decide +kernel
theorem dX5_keeps_131 : decode cX5_keeps 131 = .ok (.iload 5, 2) := by decide +kernel
theorem dX5_keeps_133 : decode cX5_keeps 133 = .ok (.invokestatic 172, 3) := by decide +kernel
theorem dX5_keeps_136 : decode cX5_keeps 136 = .ok (.goto 5, 3) := by decide +kernel
theorem dX5_keeps_139 : decode cX5_keeps 139 = .ok (.iload 5, 2) := by decide +kernel
theorem dX5_keeps_141 : decode cX5_keeps 141 = .ok (.ireturn, 1) := by decide +kernel
theorem dX5_instead_0 : decode cX5_instead 0 = .ok (.aload_n 0, 1) := by decide +kernel
theorem dX5_instead_1 : decode cX5_instead 1 = .ok (.getfield 23, 3) := by decide +kernel
theorem dX5_instead_4 : decode cX5_instead 4 = .ok (.aload_n 0, 1) := by decide +kernel
theorem dX5_instead_5 : decode cX5_instead 5 = .ok (.getfield 19, 3) := by decide +kernel
theorem dX5_instead_8 : decode cX5_instead 8 = .ok (.invokevirtual 85, 3) := by decide +kernel
theorem dX5_instead_11 : decode cX5_instead 11 = .ok (.iconst 0, 1) := by decide +kernel
theorem dX5_instead_12 : decode cX5_instead 12 = .ok (.istore_n 1, 1) := by decide +kernel
theorem dX5_instead_13 : decode cX5_instead 13 = .ok (.iload_n 1, 1) := by decide +kernel
theorem dX5_instead_14 : decode cX5_instead 14 = .ok (.aload_n 0, 1) := by decide +kernel
theorem dX5_instead_15 : decode cX5_instead 15 = .ok (.getfield 19, 3) := by decide +kernel
theorem dX5_instead_18 : decode cX5_instead 18 = .ok (.getfield 79, 3) := by decide +kernel
theorem dX5_instead_21 : decode cX5_instead 21 = .ok (.if_icmp .ge 109, 3) := by decide +kernel
theorem dX5_instead_24 : decode cX5_instead 24 = .ok (.aload_n 0, 1) := by decide +kernel
theorem dX5_instead_25 : decode cX5_instead 25 = .ok (.getfield 19, 3) := by decide +kernel
theorem dX5_instead_28 : decode cX5_instead 28 = .ok (.getfield 108, 3) := by decide +kernel
theorem dX5_instead_31 : decode cX5_instead 31 = .ok (.iload_n 1, 1) := by decide +kernel
theorem dX5_instead_32 : decode cX5_instead 32 = .ok (.invokestatic 99, 3) := by decide +kernel
theorem dX5_instead_35 : decode cX5_instead 35 = .ok (.istore_n 2, 1) := by decide +kernel
theorem dX5_instead_36 : decode cX5_instead 36 = .ok (.aload_n 0, 1) := by decide +kernel
theorem dX5_instead_37 : decode cX5_instead 37 = .ok (.getfield 19, 3) := by decide +kernel
theorem dX5_instead_40 : decode cX5_instead 40 = .ok (.getfield 111, 3) := by decide +kernel
theorem dX5_instead_43 : decode cX5_instead 43 = .ok (.iload_n 1, 1) := by decide +kernel
theorem dX5_instead_44 : decode cX5_instead 44 = .ok (.invokestatic 99, 3) := by decide +kernel
theorem dX5_instead_47 : decode cX5_instead 47 = .ok (.ifCond .eq 7, 3) := by decide +kernel
theorem dX5_instead_50 : decode cX5_instead 50 = .ok (.iconst 1, 1) := by decide +kernel
theorem dX5_instead_51 : decode cX5_instead 51 = .ok (.goto 4, 3) := by decide +kernel
theorem dX5_instead_54 : decode cX5_instead 54 = .ok (.iconst 0, 1) := by decide +kernel
theorem dX5_instead_55 : decode cX5_instead 55 = .ok (.istore_n 3, 1) := by decide +kernel
theorem dX5_instead_56 : decode cX5_instead 56 = .ok (.iconst 0, 1) := by decide +kernel
theorem dX5_instead_57 : decode cX5_instead 57 = .ok (.istore 4, 2) := by decide +kernel
theorem dX5_instead_59 : decode cX5_instead 59 = .ok (.iload 4, 2) := by decide +kernel
theorem dX5_instead_61 : decode cX5_instead 61 = .ok (.iconst 5, 1) := by decide +kernel
theorem dX5_instead_62 : decode cX5_instead 62 = .ok (.if_icmp .gt 50, 3) := by decide +kernel
theorem dX5_instead_65 : decode cX5_instead 65 = .ok (.iload_n 3, 1) := by decide +kernel
theorem dX5_instead_66 : decode cX5_instead 66 = .ok (.ifCond .ne 46, 3) := by decide +kernel
theorem dX5_instead_69 : decode cX5_instead 69 = .ok (.aload_n 0, 1) := by decide +kernel
theorem dX5_instead_70 : decode cX5_instead 70 = .ok (.getfield 23, 3) := by decide +kernel
theorem dX5_instead_73 : decode cX5_instead 73 = .ok (.getfield 108, 3) := by decide +kernel
theorem dX5_instead_76 : decode cX5_instead 76 = .ok (.iload_n 1, 1) := by decide +kernel
theorem dX5_instead_77 : decode cX5_instead 77 = .ok (.iload 4, 2) := by decide +kernel
theorem dX5_instead_79 : decode cX5_instead 79 = .ok (.invokestatic 165, 3) := by decide +kernel
theorem dX5_instead_82 : decode cX5_instead 82 = .ok (.iload 4, 2) := by decide +kernel
theorem dX5_instead_84 : decode cX5_instead 84 = .ok (.iload_n 2, 1) := by decide +kernel
theorem dX5_instead_85 : decode cX5_instead 85 = .ok (.if_icmp .eq 21, 3) := by decide +kernel
theorem dX5_instead_88 : decode cX5_instead 88 = .ok (.aload_n 0, 1) := by decide +kernel
theorem dX5_instead_89 : decode cX5_instead 89 = .ok (.getfield 23, 3) := by decide +kernel
theorem dX5_instead_92 : decode cX5_instead 92 = .ok (.invokevirtual 137, 3) := by decide +kernel
theorem dX5_instead_95 : decode cX5_instead 95 = .ok (.ifCond .ne 11, 3) := by decide +kernel
theorem dX5_instead_98 : decode cX5_instead 98 = .ok (.bipush 10, 2) := by decide +kernel
theorem dX5_instead_100 : decode cX5_instead 100 = .ok (.iload_n 1, 1) := by decide +kernel
theorem dX5_instead_101 : decode cX5_instead 101 = .ok (.imul, 1) := by decide +kernel
theorem dX5_instead_102 : decode cX5_instead 102 = .ok (.iload 4, 2) := by decide +kernel
theorem dX5_instead_104 : decode cX5_instead 104 = .ok (.iadd, 1) := by decide +kernel
theorem dX5_instead_105 : decode cX5_instead 105 = .ok (.ireturn, 1) := by decide +kernel
theorem dX5_instead_106 : decode cX5_instead 106 = .ok (.iinc 4 1, 3) := by decide +kernel
theorem dX5_instead_109 : decode cX5_instead 109 = .ok (.goto (-50), 3) := by decide +kernel
theorem dX5_instead_112 : decode cX5_instead 112 = .ok (.aload_n 0, 1) := by decide +kernel
theorem dX5_instead_113 : decode cX5_instead 113 = .ok (.getfield 23, 3) := by decide +kernel
theorem dX5_instead_116 : decode cX5_instead 116 = .ok (.getfield 108, 3) := by decide +kernel
theorem dX5_instead_119 : decode cX5_instead 119 = .ok (.iload_n 1, 1) := by decide +kernel
theorem dX5_instead_120 : decode cX5_instead 120 = .ok (.iload_n 2, 1) := by decide +kernel
theorem dX5_instead_121 : decode cX5_instead 121 = .ok (.invokestatic 165, 3) := by decide +kernel
theorem dX5_instead_124 : decode cX5_instead 124 = .ok (.iinc 1 1, 3) := by decide +kernel
theorem dX5_instead_127 : decode cX5_instead 127 = .ok (.goto (-114), 3) := by decide +kernel
theorem dX5_instead_130 : decode cX5_instead 130 = .ok (.bipush (-4), 2) := by decide +kernel
theorem dX5_instead_132 : decode cX5_instead 132 = .ok (.ireturn, 1) := by decide +kernel
theorem dX5_seen_0 : decode cX5_seen 0 = .ok (.iload_n 1, 1) := by decide +kernel
theorem dX5_seen_1 : decode cX5_seen 1 = .ok (.iload_n 2, 1) := by decide +kernel
theorem dX5_seen_2 : decode cX5_seen 2 = .ok (.invokestatic 161, 3) := by decide +kernel
theorem dX5_seen_5 : decode cX5_seen 5 = .ok (.ifCond .eq 12, 3) := by decide +kernel
theorem dX5_seen_8 : decode cX5_seen 8 = .ok (.iload_n 3, 1) := by decide +kernel
theorem dX5_seen_9 : decode cX5_seen 9 = .ok (.iconst 0, 1) := by decide +kernel
theorem dX5_seen_10 : decode cX5_seen 10 = .ok (.iconst 4, 1) := by decide +kernel
theorem dX5_seen_11 : decode cX5_seen 11 = .ok (.invokestatic 75, 3) := by decide +kernel
theorem dX5_seen_14 : decode cX5_seen 14 = .ok (.ifCond .ne 5, 3) := by decide +kernel
theorem dX5_seen_17 : decode cX5_seen 17 = .ok (.iconst (-1), 1) := by decide +kernel
theorem dX5_seen_18 : decode cX5_seen 18 = .ok (.ireturn, 1) := by decide +kernel
theorem dX5_seen_19 : decode cX5_seen 19 = .ok (.aload_n 0, 1) := by decide +kernel
theorem dX5_seen_20 : decode cX5_seen 20 = .ok (.getfield 29, 3) := by decide +kernel
theorem dX5_seen_23 : decode cX5_seen 23 = .ok (.iload_n 1, 1) := by decide +kernel
theorem dX5_seen_24 : decode cX5_seen 24 = .ok (.iload_n 2, 1) := by decide +kernel
theorem dX5_seen_25 : decode cX5_seen 25 = .ok (.iload_n 3, 1) := by decide +kernel
theorem dX5_seen_26 : decode cX5_seen 26 = .ok (.invokevirtual 212, 3) := by decide +kernel
theorem dX5_seen_29 : decode cX5_seen 29 = .ok (.ifCond .eq 13, 3) := by decide +kernel
theorem dX5_seen_32 : decode cX5_seen 32 = .ok (.aload_n 0, 1) := by decide +kernel
theorem dX5_seen_33 : decode cX5_seen 33 = .ok (.getfield 29, 3) := by decide +kernel
theorem dX5_seen_36 : decode cX5_seen 36 = .ok (.getfield 89, 3) := by decide +kernel
theorem dX5_seen_39 : decode cX5_seen 39 = .ok (.goto 5, 3) := by decide +kernel
theorem dX5_seen_42 : decode cX5_seen 42 = .ok (.bipush (-3), 2) := by decide +kernel
theorem dX5_seen_44 : decode cX5_seen 44 = .ok (.ireturn, 1) := by decide +kernel
theorem dX5_forget_0 : decode cX5_forget 0 = .ok (.aload_n 0, 1) := by decide +kernel
theorem dX5_forget_1 : decode cX5_forget 1 = .ok (.getfield 29, 3) := by decide +kernel
theorem dX5_forget_4 : decode cX5_forget 4 = .ok (.getfield 89, 3) := by decide +kernel
theorem dX5_forget_7 : decode cX5_forget 7 = .ok (.istore_n 1, 1) := by decide +kernel
theorem dX5_forget_8 : decode cX5_forget 8 = .ok (.aload_n 0, 1) := by decide +kernel
theorem dX5_forget_9 : decode cX5_forget 9 = .ok (.getfield 29, 3) := by decide +kernel
theorem dX5_forget_12 : decode cX5_forget 12 = .ok (.iconst 0, 1) := by decide +kernel
theorem dX5_forget_13 : decode cX5_forget 13 = .ok (.putfield 89, 3) := by decide +kernel
theorem dX5_forget_16 : decode cX5_forget 16 = .ok (.iload_n 1, 1) := by decide +kernel
theorem dX5_forget_17 : decode cX5_forget 17 = .ok (.ireturn, 1) := by decide +kernel
theorem dX5_may_0 : decode cX5_may 0 = .ok (.aload_n 0, 1) := by decide +kernel
theorem dX5_may_1 : decode cX5_may 1 = .ok (.getfield 19, 3) := by decide +kernel
theorem dX5_may_4 : decode cX5_may 4 = .ok (.iload_n 1, 1) := by decide +kernel
theorem dX5_may_5 : decode cX5_may 5 = .ok (.invokevirtual 114, 3) := by decide +kernel
theorem dX5_may_8 : decode cX5_may 8 = .ok (.ifCond .ne 5, 3) := by decide +kernel
theorem dX5_may_11 : decode cX5_may 11 = .ok (.iconst (-1), 1) := by decide +kernel
theorem dX5_may_12 : decode cX5_may 12 = .ok (.ireturn, 1) := by decide +kernel
theorem dX5_may_13 : decode cX5_may 13 = .ok (.aload_n 0, 1) := by decide +kernel
theorem dX5_may_14 : decode cX5_may 14 = .ok (.getfield 23, 3) := by decide +kernel
theorem dX5_may_17 : decode cX5_may 17 = .ok (.aload_n 0, 1) := by decide +kernel
theorem dX5_may_18 : decode cX5_may 18 = .ok (.getfield 19, 3) := by decide +kernel
theorem dX5_may_21 : decode cX5_may 21 = .ok (.invokevirtual 85, 3) := by decide +kernel
theorem dX5_may_24 : decode cX5_may 24 = .ok (.iload_n 2, 1) := by decide +kernel
theorem dX5_may_25 : decode cX5_may 25 = .ok (.tableswitch 73 0 2 #[27, 43, 58], 27) := by decide +kernel
theorem dX5_may_52 : decode cX5_may 52 = .ok (.aload_n 0, 1) := by decide +kernel
theorem dX5_may_53 : decode cX5_may 53 = .ok (.aload_n 0, 1) := by decide +kernel
theorem dX5_may_54 : decode cX5_may 54 = .ok (.getfield 23, 3) := by decide +kernel
theorem dX5_may_57 : decode cX5_may 57 = .ok (.getfield 131, 3) := by decide +kernel
theorem dX5_may_60 : decode cX5_may 60 = .ok (.iload_n 1, 1) := by decide +kernel
theorem dX5_may_61 : decode cX5_may 61 = .ok (.iconst 1, 1) := by decide +kernel
theorem dX5_may_62 : decode cX5_may 62 = .ok (.bipush 9, 2) := by decide +kernel
theorem dX5_may_64 : decode cX5_may 64 = .ok (.invokevirtual 215, 3) := by decide +kernel
theorem dX5_may_67 : decode cX5_may 67 = .ok (.ireturn, 1) := by decide +kernel
theorem dX5_may_68 : decode cX5_may 68 = .ok (.aload_n 0, 1) := by decide +kernel
theorem dX5_may_69 : decode cX5_may 69 = .ok (.aload_n 0, 1) := by decide +kernel
theorem dX5_may_70 : decode cX5_may 70 = .ok (.getfield 23, 3) := by decide +kernel
theorem dX5_may_73 : decode cX5_may 73 = .ok (.getfield 128, 3) := by decide +kernel
theorem dX5_may_76 : decode cX5_may 76 = .ok (.iload_n 1, 1) := by decide +kernel
theorem dX5_may_77 : decode cX5_may 77 = .ok (.iconst 0, 1) := by decide +kernel
theorem dX5_may_78 : decode cX5_may 78 = .ok (.iconst 5, 1) := by decide +kernel
theorem dX5_may_79 : decode cX5_may 79 = .ok (.invokevirtual 215, 3) := by decide +kernel
theorem dX5_may_82 : decode cX5_may 82 = .ok (.ireturn, 1) := by decide +kernel
theorem dX5_may_83 : decode cX5_may 83 = .ok (.aload_n 0, 1) := by decide +kernel
theorem dX5_may_84 : decode cX5_may 84 = .ok (.aload_n 0, 1) := by decide +kernel
theorem dX5_may_85 : decode cX5_may 85 = .ok (.getfield 23, 3) := by decide +kernel
theorem dX5_may_88 : decode cX5_may 88 = .ok (.getfield 125, 3) := by decide +kernel
theorem dX5_may_91 : decode cX5_may 91 = .ok (.iload_n 1, 1) := by decide +kernel
theorem dX5_may_92 : decode cX5_may 92 = .ok (.iconst 0, 1) := by decide +kernel
theorem dX5_may_93 : decode cX5_may 93 = .ok (.iconst 3, 1) := by decide +kernel
theorem dX5_may_94 : decode cX5_may 94 = .ok (.invokevirtual 215, 3) := by decide +kernel
theorem dX5_may_97 : decode cX5_may 97 = .ok (.ireturn, 1) := by decide +kernel
theorem dX5_may_98 : decode cX5_may 98 = .ok (.iconst (-1), 1) := by decide +kernel
theorem dX5_may_99 : decode cX5_may 99 = .ok (.ireturn, 1) := by decide +kernel
theorem dX5_stowaway_0 : decode cX5_stowaway 0 = .ok (.iload_n 1, 1) := by decide +kernel
theorem dX5_stowaway_1 : decode cX5_stowaway 1 = .ok (.iconst 0, 1) := by decide +kernel
theorem dX5_stowaway_2 : decode cX5_stowaway 2 = .ok (.iconst 1, 1) := by decide +kernel
theorem dX5_stowaway_3 : decode cX5_stowaway 3 = .ok (.invokestatic 75, 3) := by decide +kernel
theorem dX5_stowaway_6 : decode cX5_stowaway 6 = .ok (.ifCond .ne 5, 3) := by decide +kernel
theorem dX5_stowaway_9 : decode cX5_stowaway 9 = .ok (.iconst (-1), 1) := by decide +kernel
theorem dX5_stowaway_10 : decode cX5_stowaway 10 = .ok (.ireturn, 1) := by decide +kernel
theorem dX5_stowaway_11 : decode cX5_stowaway 11 = .ok (.aload_n 0, 1) := by decide +kernel
theorem dX5_stowaway_12 : decode cX5_stowaway 12 = .ok (.getfield 23, 3) := by decide +kernel
theorem dX5_stowaway_15 : decode cX5_stowaway 15 = .ok (.aload_n 0, 1) := by decide +kernel
theorem dX5_stowaway_16 : decode cX5_stowaway 16 = .ok (.getfield 19, 3) := by decide +kernel
theorem dX5_stowaway_19 : decode cX5_stowaway 19 = .ok (.invokevirtual 85, 3) := by decide +kernel
theorem dX5_stowaway_22 : decode cX5_stowaway 22 = .ok (.aload_n 0, 1) := by decide +kernel
theorem dX5_stowaway_23 : decode cX5_stowaway 23 = .ok (.getfield 23, 3) := by decide +kernel
theorem dX5_stowaway_26 : decode cX5_stowaway 26 = .ok (.getfield 82, 3) := by decide +kernel
theorem dX5_stowaway_29 : decode cX5_stowaway 29 = .ok (.istore_n 2, 1) := by decide +kernel
theorem dX5_stowaway_30 : decode cX5_stowaway 30 = .ok (.aload_n 0, 1) := by decide +kernel
theorem dX5_stowaway_31 : decode cX5_stowaway 31 = .ok (.getfield 23, 3) := by decide +kernel
theorem dX5_stowaway_34 : decode cX5_stowaway 34 = .ok (.iconst 0, 1) := by decide +kernel
theorem dX5_stowaway_35 : decode cX5_stowaway 35 = .ok (.iconst 0, 1) := by decide +kernel
theorem dX5_stowaway_36 : decode cX5_stowaway 36 = .ok (.iconst 1, 1) := by decide +kernel
theorem dX5_stowaway_37 : decode cX5_stowaway 37 = .ok (.invokevirtual 219, 3) := by decide +kernel
theorem dX5_stowaway_40 : decode cX5_stowaway 40 = .ok (.iconst 0, 1) := by decide +kernel
theorem dX5_stowaway_41 : decode cX5_stowaway 41 = .ok (.istore_n 3, 1) := by decide +kernel
theorem dX5_stowaway_42 : decode cX5_stowaway 42 = .ok (.bipush (-4), 2) := by decide +kernel
theorem dX5_stowaway_44 : decode cX5_stowaway 44 = .ok (.istore 4, 2) := by decide +kernel
theorem dX5_stowaway_46 : decode cX5_stowaway 46 = .ok (.iconst 0, 1) := by decide +kernel
theorem dX5_stowaway_47 : decode cX5_stowaway 47 = .ok (.istore 5, 2) := by decide +kernel
theorem dX5_stowaway_49 : decode cX5_stowaway 49 = .ok (.iload 5, 2) := by decide +kernel
theorem dX5_stowaway_51 : decode cX5_stowaway 51 = .ok (.iconst 5, 1) := by decide +kernel
theorem dX5_stowaway_52 : decode cX5_stowaway 52 = .ok (.if_icmp .gt 90, 3) := by decide +kernel
theorem dX5_stowaway_55 : decode cX5_stowaway 55 = .ok (.aload_n 0, 1) := by decide +kernel
theorem dX5_stowaway_56 : decode cX5_stowaway 56 = .ok (.getfield 23, 3) := by decide +kernel
theorem dX5_stowaway_59 : decode cX5_stowaway 59 = .ok (.getfield 128, 3) := by decide +kernel
theorem dX5_stowaway_62 : decode cX5_stowaway 62 = .ok (.iload_n 2, 1) := by decide +kernel
theorem dX5_stowaway_63 : decode cX5_stowaway 63 = .ok (.iload 5, 2) := by decide +kernel
theorem dX5_stowaway_65 : decode cX5_stowaway 65 = .ok (.invokestatic 165, 3) := by decide +kernel
theorem dX5_stowaway_68 : decode cX5_stowaway 68 = .ok (.iconst 1, 1) := by decide +kernel
theorem dX5_stowaway_69 : decode cX5_stowaway 69 = .ok (.istore 6, 2) := by decide +kernel
theorem dX5_stowaway_71 : decode cX5_stowaway 71 = .ok (.iload 6, 2) := by decide +kernel
theorem dX5_stowaway_73 : decode cX5_stowaway 73 = .ok (.bipush 9, 2) := by decide +kernel
theorem dX5_stowaway_75 : decode cX5_stowaway 75 = .ok (.if_icmp .gt 61, 3) := by decide +kernel
theorem dX5_stowaway_78 : decode cX5_stowaway 78 = .ok (.aload_n 0, 1) := by decide +kernel
theorem dX5_stowaway_79 : decode cX5_stowaway 79 = .ok (.getfield 23, 3) := by decide +kernel
theorem dX5_stowaway_82 : decode cX5_stowaway 82 = .ok (.getfield 131, 3) := by decide +kernel
theorem dX5_stowaway_85 : decode cX5_stowaway 85 = .ok (.iload_n 2, 1) := by decide +kernel
theorem dX5_stowaway_86 : decode cX5_stowaway 86 = .ok (.iload 6, 2) := by decide +kernel
theorem dX5_stowaway_88 : decode cX5_stowaway 88 = .ok (.invokestatic 165, 3) := by decide +kernel
theorem dX5_stowaway_91 : decode cX5_stowaway 91 = .ok (.aload_n 0, 1) := by decide +kernel
theorem dX5_stowaway_92 : decode cX5_stowaway 92 = .ok (.getfield 29, 3) := by decide +kernel
theorem dX5_stowaway_95 : decode cX5_stowaway 95 = .ok (.aload_n 0, 1) := by decide +kernel
theorem dX5_stowaway_96 : decode cX5_stowaway 96 = .ok (.getfield 23, 3) := by decide +kernel
theorem dX5_stowaway_99 : decode cX5_stowaway 99 = .ok (.invokevirtual 222, 3) := by decide +kernel
theorem dX5_stowaway_102 : decode cX5_stowaway 102 = .ok (.ifCond .eq 28, 3) := by decide +kernel
theorem dX5_stowaway_105 : decode cX5_stowaway 105 = .ok (.iinc 3 1, 3) := by decide +kernel
theorem dX5_stowaway_108 : decode cX5_stowaway 108 = .ok (.iload 4, 2) := by decide +kernel
theorem dX5_stowaway_110 : decode cX5_stowaway 110 = .ok (.bipush (-4), 2) := by decide +kernel
theorem dX5_stowaway_112 : decode cX5_stowaway 112 = .ok (.if_icmp .ne 14, 3) := by decide +kernel
theorem dX5_stowaway_115 : decode cX5_stowaway 115 = .ok (.bipush 10, 2) := by decide +kernel
theorem dX5_stowaway_117 : decode cX5_stowaway 117 = .ok (.iload 5, 2) := by decide +kernel
theorem dX5_stowaway_119 : decode cX5_stowaway 119 = .ok (.imul, 1) := by decide +kernel
theorem dX5_stowaway_120 : decode cX5_stowaway 120 = .ok (.iload 6, 2) := by decide +kernel
theorem dX5_stowaway_122 : decode cX5_stowaway 122 = .ok (.iadd, 1) := by decide +kernel
theorem dX5_stowaway_123 : decode cX5_stowaway 123 = .ok (.goto 5, 3) := by decide +kernel
theorem dX5_stowaway_126 : decode cX5_stowaway 126 = .ok (.iload 4, 2) := by decide +kernel
theorem dX5_stowaway_128 : decode cX5_stowaway 128 = .ok (.istore 4, 2) := by decide +kernel
theorem dX5_stowaway_130 : decode cX5_stowaway 130 = .ok (.iinc 6 1, 3) := by decide +kernel
theorem dX5_stowaway_133 : decode cX5_stowaway 133 = .ok (.goto (-62), 3) := by decide +kernel
theorem dX5_stowaway_136 : decode cX5_stowaway 136 = .ok (.iinc 5 1, 3) := by decide +kernel
theorem dX5_stowaway_139 : decode cX5_stowaway 139 = .ok (.goto (-90), 3) := by decide +kernel
theorem dX5_stowaway_142 : decode cX5_stowaway 142 = .ok (.iload_n 1, 1) := by decide +kernel
theorem dX5_stowaway_143 : decode cX5_stowaway 143 = .ok (.ifCond .ne 7, 3) := by decide +kernel
theorem dX5_stowaway_146 : decode cX5_stowaway 146 = .ok (.iload_n 3, 1) := by decide +kernel
theorem dX5_stowaway_147 : decode cX5_stowaway 147 = .ok (.goto 5, 3) := by decide +kernel
theorem dX5_stowaway_150 : decode cX5_stowaway 150 = .ok (.iload 4, 2) := by decide +kernel
theorem dX5_stowaway_152 : decode cX5_stowaway 152 = .ok (.ireturn, 1) := by decide +kernel
theorem dX5_likely_0 : decode cX5_likely 0 = .ok (.iload_n 1, 1) := by decide +kernel
theorem dX5_likely_1 : decode cX5_likely 1 = .ok (.iconst 0, 1) := by decide +kernel
theorem dX5_likely_2 : decode cX5_likely 2 = .ok (.bipush 7, 2) := by decide +kernel
theorem dX5_likely_4 : decode cX5_likely 4 = .ok (.invokestatic 75, 3) := by decide +kernel
theorem dX5_likely_7 : decode cX5_likely 7 = .ok (.ifCond .eq 22, 3) := by decide +kernel
theorem dX5_likely_10 : decode cX5_likely 10 = .ok (.iload_n 2, 1) := by decide +kernel
theorem dX5_likely_11 : decode cX5_likely 11 = .ok (.iconst 0, 1) := by decide +kernel
theorem dX5_likely_12 : decode cX5_likely 12 = .ok (.bipush 10, 2) := by decide +kernel
theorem dX5_likely_14 : decode cX5_likely 14 = .ok (.invokestatic 75, 3) := by decide +kernel
theorem dX5_likely_17 : decode cX5_likely 17 = .ok (.ifCond .eq 12, 3) := by decide +kernel
theorem dX5_likely_20 : decode cX5_likely 20 = .ok (.iload_n 3, 1) := by decide +kernel
theorem dX5_likely_21 : decode cX5_likely 21 = .ok (.iconst 0, 1) := by decide +kernel
theorem dX5_likely_22 : decode cX5_likely 22 = .ok (.iconst 1, 1) := by decide +kernel
theorem dX5_likely_23 : decode cX5_likely 23 = .ok (.invokestatic 75, 3) := by decide +kernel
theorem dX5_likely_26 : decode cX5_likely 26 = .ok (.ifCond .ne 5, 3) := by decide +kernel
theorem dX5_likely_29 : decode cX5_likely 29 = .ok (.iconst (-1), 1) := by decide +kernel
theorem dX5_likely_30 : decode cX5_likely 30 = .ok (.ireturn, 1) := by decide +kernel
theorem dX5_likely_31 : decode cX5_likely 31 = .ok (.aload_n 0, 1) := by decide +kernel
theorem dX5_likely_32 : decode cX5_likely 32 = .ok (.getfield 19, 3) := by decide +kernel
theorem dX5_likely_35 : decode cX5_likely 35 = .ok (.getfield 181, 3) := by decide +kernel
theorem dX5_likely_38 : decode cX5_likely 38 = .ok (.aload_n 0, 1) := by decide +kernel
theorem dX5_likely_39 : decode cX5_likely 39 = .ok (.getfield 19, 3) := by decide +kernel
theorem dX5_likely_42 : decode cX5_likely 42 = .ok (.getfield 184, 3) := by decide +kernel
theorem dX5_likely_45 : decode cX5_likely 45 = .ok (.invokestatic 225, 3) := by decide +kernel
theorem dX5_likely_48 : decode cX5_likely 48 = .ok (.istore 4, 2) := by decide +kernel
theorem dX5_likely_50 : decode cX5_likely 50 = .ok (.aload_n 0, 1) := by decide +kernel
theorem dX5_likely_51 : decode cX5_likely 51 = .ok (.getfield 45, 3) := by decide +kernel
theorem dX5_likely_54 : decode cX5_likely 54 = .ok (.iconst 0, 1) := by decide +kernel
theorem dX5_likely_55 : decode cX5_likely 55 = .ok (.invokestatic 228, 3) := by decide +kernel
theorem dX5_likely_58 : decode cX5_likely 58 = .ok (.aload_n 0, 1) := by decide +kernel
theorem dX5_likely_59 : decode cX5_likely 59 = .ok (.getfield 45, 3) := by decide +kernel
theorem dX5_likely_62 : decode cX5_likely 62 = .ok (.iload 4, 2) := by decide +kernel
theorem dX5_likely_64 : decode cX5_likely 64 = .ok (.iconst 1, 1) := by decide +kernel
theorem dX5_likely_65 : decode cX5_likely 65 = .ok (.invokestatic 165, 3) := by decide +kernel
theorem dX5_likely_68 : decode cX5_likely 68 = .ok (.iconst 1, 1) := by decide +kernel
theorem dX5_likely_69 : decode cX5_likely 69 = .ok (.istore 5, 2) := by decide +kernel
theorem dX5_likely_71 : decode cX5_likely 71 = .ok (.iconst 0, 1) := by decide +kernel
theorem dX5_likely_72 : decode cX5_likely 72 = .ok (.istore 6, 2) := by decide +kernel
theorem dX5_likely_74 : decode cX5_likely 74 = .ok (.iload 6, 2) := by decide +kernel
theorem dX5_likely_76 : decode cX5_likely 76 = .ok (.iload_n 1, 1) := by decide +kernel
theorem dX5_likely_77 : decode cX5_likely 77 = .ok (.if_icmp .ge 21, 3) := by decide +kernel
theorem dX5_likely_80 : decode cX5_likely 80 = .ok (.aload_n 0, 1) := by decide +kernel
theorem dX5_likely_81 : decode cX5_likely 81 = .ok (.iload_n 2, 1) := by decide +kernel
theorem dX5_likely_82 : decode cX5_likely 82 = .ok (.invokevirtual 234, 3) := by decide +kernel
theorem dX5_likely_85 : decode cX5_likely 85 = .ok (.iload 5, 2) := by decide +kernel
theorem dX5_likely_87 : decode cX5_likely 87 = .ok (.bipush 10, 2) := by decide +kernel
theorem dX5_likely_89 : decode cX5_likely 89 = .ok (.imul, 1) := by decide +kernel
theorem dX5_likely_90 : decode cX5_likely 90 = .ok (.istore 5, 2) := by decide +kernel
theorem dX5_likely_92 : decode cX5_likely 92 = .ok (.iinc 6 1, 3) := by decide +kernel
theorem dX5_likely_95 : decode cX5_likely 95 = .ok (.goto (-21), 3) := by decide +kernel
theorem dX5_likely_98 : decode cX5_likely 98 = .ok (.aload_n 0, 1) := by decide +kernel
theorem dX5_likely_99 : decode cX5_likely 99 = .ok (.getfield 45, 3) := by decide +kernel
theorem dX5_likely_102 : decode cX5_likely 102 = .ok (.iload 4, 2) := by decide +kernel
theorem dX5_likely_104 : decode cX5_likely 104 = .ok (.invokestatic 99, 3) := by decide +kernel
theorem dX5_likely_107 : decode cX5_likely 107 = .ok (.istore 6, 2) := by decide +kernel
theorem dX5_likely_109 : decode cX5_likely 109 = .ok (.iconst 0, 1) := by decide +kernel
theorem dX5_likely_110 : decode cX5_likely 110 = .ok (.istore 7, 2) := by decide +kernel
theorem dX5_likely_112 : decode cX5_likely 112 = .ok (.iload 7, 2) := by decide +kernel
theorem dX5_likely_114 : decode cX5_likely 114 = .ok (.iload_n 1, 1) := by decide +kernel
theorem dX5_likely_115 : decode cX5_likely 115 = .ok (.if_icmp .ge 61, 3) := by decide +kernel
theorem dX5_likely_118 : decode cX5_likely 118 = .ok (.iload 6, 2) := by decide +kernel
theorem dX5_likely_120 : decode cX5_likely 120 = .ok (.iconst 2, 1) := by decide +kernel
theorem dX5_likely_121 : decode cX5_likely 121 = .ok (.irem, 1) := by decide +kernel
theorem dX5_likely_122 : decode cX5_likely 122 = .ok (.ifCond .ne 22, 3) := by decide +kernel
theorem dX5_likely_125 : decode cX5_likely 125 = .ok (.iload 5, 2) := by decide +kernel
theorem dX5_likely_127 : decode cX5_likely 127 = .ok (.iconst 2, 1) := by decide +kernel
theorem dX5_likely_128 : decode cX5_likely 128 = .ok (.irem, 1) := by decide +kernel
theorem dX5_likely_129 : decode cX5_likely 129 = .ok (.ifCond .ne 15, 3) := by decide +kernel
theorem dX5_likely_132 : decode cX5_likely 132 = .ok (.iload 6, 2) := by decide +kernel
theorem dX5_likely_134 : decode cX5_likely 134 = .ok (.iconst 2, 1) := by decide +kernel
theorem dX5_likely_135 : decode cX5_likely 135 = .ok (.idiv, 1) := by decide +kernel
theorem dX5_likely_136 : decode cX5_likely 136 = .ok (.istore 6, 2) := by decide +kernel
theorem dX5_likely_138 : decode cX5_likely 138 = .ok (.iload 5, 2) := by decide +kernel
theorem dX5_likely_140 : decode cX5_likely 140 = .ok (.iconst 2, 1) := by decide +kernel
theorem dX5_likely_141 : decode cX5_likely 141 = .ok (.idiv, 1) := by decide +kernel
theorem dX5_likely_142 : decode cX5_likely 142 = .ok (.istore 5, 2) := by decide +kernel
theorem dX5_likely_144 : decode cX5_likely 144 = .ok (.iload 6, 2) := by decide +kernel
theorem dX5_likely_146 : decode cX5_likely 146 = .ok (.iconst 5, 1) := by decide +kernel
theorem dX5_likely_147 : decode cX5_likely 147 = .ok (.irem, 1) := by decide +kernel
theorem dX5_likely_148 : decode cX5_likely 148 = .ok (.ifCond .ne 22, 3) := by decide +kernel
theorem dX5_likely_151 : decode cX5_likely 151 = .ok (.iload 5, 2) := by decide +kernel
theorem dX5_likely_153 : decode cX5_likely 153 = .ok (.iconst 5, 1) := by decide +kernel
theorem dX5_likely_154 : decode cX5_likely 154 = .ok (.irem, 1) := by decide +kernel
theorem dX5_likely_155 : decode cX5_likely 155 = .ok (.ifCond .ne 15, 3) := by decide +kernel
theorem dX5_likely_158 : decode cX5_likely 158 = .ok (.iload 6, 2) := by decide +kernel
theorem dX5_likely_160 : decode cX5_likely 160 = .ok (.iconst 5, 1) := by decide +kernel
theorem dX5_likely_161 : decode cX5_likely 161 = .ok (.idiv, 1) := by decide +kernel
theorem dX5_likely_162 : decode cX5_likely 162 = .ok (.istore 6, 2) := by decide +kernel
theorem dX5_likely_164 : decode cX5_likely 164 = .ok (.iload 5, 2) := by decide +kernel
theorem dX5_likely_166 : decode cX5_likely 166 = .ok (.iconst 5, 1) := by decide +kernel
theorem dX5_likely_167 : decode cX5_likely 167 = .ok (.idiv, 1) := by decide +kernel
theorem dX5_likely_168 : decode cX5_likely 168 = .ok (.istore 5, 2) := by decide +kernel
theorem dX5_likely_170 : decode cX5_likely 170 = .ok (.iinc 7 1, 3) := by decide +kernel
theorem dX5_likely_173 : decode cX5_likely 173 = .ok (.goto (-61), 3) := by decide +kernel
theorem dX5_likely_176 : decode cX5_likely 176 = .ok (.iload_n 3, 1) := by decide +kernel
theorem dX5_likely_177 : decode cX5_likely 177 = .ok (.ifCond .ne 8, 3) := by decide +kernel
theorem dX5_likely_180 : decode cX5_likely 180 = .ok (.iload 6, 2) := by decide +kernel
theorem dX5_likely_182 : decode cX5_likely 182 = .ok (.goto 5, 3) := by decide +kernel
theorem dX5_likely_185 : decode cX5_likely 185 = .ok (.iload 5, 2) := by decide +kernel
theorem dX5_likely_187 : decode cX5_likely 187 = .ok (.ireturn, 1) := by decide +kernel
theorem dX5_voyage_0 : decode cX5_voyage 0 = .ok (.iload_n 1, 1) := by decide +kernel
theorem dX5_voyage_1 : decode cX5_voyage 1 = .ok (.iconst 0, 1) := by decide +kernel
theorem dX5_voyage_2 : decode cX5_voyage 2 = .ok (.sipush 9999, 3) := by decide +kernel
theorem dX5_voyage_5 : decode cX5_voyage 5 = .ok (.invokestatic 75, 3) := by decide +kernel
theorem dX5_voyage_8 : decode cX5_voyage 8 = .ok (.ifCond .eq 22, 3) := by decide +kernel
theorem dX5_voyage_11 : decode cX5_voyage 11 = .ok (.iload_n 2, 1) := by decide +kernel
theorem dX5_voyage_12 : decode cX5_voyage 12 = .ok (.iconst 1, 1) := by decide +kernel
theorem dX5_voyage_13 : decode cX5_voyage 13 = .ok (.bipush 60, 2) := by decide +kernel
theorem dX5_voyage_15 : decode cX5_voyage 15 = .ok (.invokestatic 75, 3) := by decide +kernel
theorem dX5_voyage_18 : decode cX5_voyage 18 = .ok (.ifCond .eq 12, 3) := by decide +kernel
theorem dX5_voyage_21 : decode cX5_voyage 21 = .ok (.iload_n 3, 1) := by decide +kernel
theorem dX5_voyage_22 : decode cX5_voyage 22 = .ok (.iconst 0, 1) := by decide +kernel
theorem dX5_voyage_23 : decode cX5_voyage 23 = .ok (.iconst 2, 1) := by decide +kernel
theorem dX5_voyage_24 : decode cX5_voyage 24 = .ok (.invokestatic 75, 3) := by decide +kernel
theorem dX5_voyage_27 : decode cX5_voyage 27 = .ok (.ifCond .ne 5, 3) := by decide +kernel
theorem dX5_voyage_30 : decode cX5_voyage 30 = .ok (.iconst (-1), 1) := by decide +kernel
theorem dX5_voyage_31 : decode cX5_voyage 31 = .ok (.ireturn, 1) := by decide +kernel
theorem dX5_voyage_32 : decode cX5_voyage 32 = .ok (.aload_n 0, 1) := by decide +kernel
theorem dX5_voyage_33 : decode cX5_voyage 33 = .ok (.getfield 23, 3) := by decide +kernel
theorem dX5_voyage_36 : decode cX5_voyage 36 = .ok (.aload_n 0, 1) := by decide +kernel
theorem dX5_voyage_37 : decode cX5_voyage 37 = .ok (.getfield 19, 3) := by decide +kernel
theorem dX5_voyage_40 : decode cX5_voyage 40 = .ok (.invokevirtual 85, 3) := by decide +kernel
theorem dX5_voyage_43 : decode cX5_voyage 43 = .ok (.iconst 0, 1) := by decide +kernel
theorem dX5_voyage_44 : decode cX5_voyage 44 = .ok (.istore 4, 2) := by decide +kernel
theorem dX5_voyage_46 : decode cX5_voyage 46 = .ok (.iconst 0, 1) := by decide +kernel
theorem dX5_voyage_47 : decode cX5_voyage 47 = .ok (.istore 5, 2) := by decide +kernel
theorem dX5_voyage_49 : decode cX5_voyage 49 = .ok (.iload 5, 2) := by decide +kernel
theorem dX5_voyage_51 : decode cX5_voyage 51 = .ok (.iload_n 2, 1) := by decide +kernel
theorem dX5_voyage_52 : decode cX5_voyage 52 = .ok (.if_icmp .ge 32, 3) := by decide +kernel
theorem dX5_voyage_55 : decode cX5_voyage 55 = .ok (.aload_n 0, 1) := by decide +kernel
theorem dX5_voyage_56 : decode cX5_voyage 56 = .ok (.iload_n 1, 1) := by decide +kernel
theorem dX5_voyage_57 : decode cX5_voyage 57 = .ok (.iload 5, 2) := by decide +kernel
theorem dX5_voyage_59 : decode cX5_voyage 59 = .ok (.invokestatic 237, 3) := by decide +kernel
theorem dX5_voyage_62 : decode cX5_voyage 62 = .ok (.invokevirtual 240, 3) := by decide +kernel
theorem dX5_voyage_65 : decode cX5_voyage 65 = .ok (.iload 4, 2) := by decide +kernel
theorem dX5_voyage_67 : decode cX5_voyage 67 = .ok (.aload_n 0, 1) := by decide +kernel
theorem dX5_voyage_68 : decode cX5_voyage 68 = .ok (.getfield 23, 3) := by decide +kernel
theorem dX5_voyage_71 : decode cX5_voyage 71 = .ok (.iconst 1, 1) := by decide +kernel
theorem dX5_voyage_72 : decode cX5_voyage 72 = .ok (.invokevirtual 152, 3) := by decide +kernel
theorem dX5_voyage_75 : decode cX5_voyage 75 = .ok (.iadd, 1) := by decide +kernel
theorem dX5_voyage_76 : decode cX5_voyage 76 = .ok (.istore 4, 2) := by decide +kernel
theorem dX5_voyage_78 : decode cX5_voyage 78 = .ok (.iinc 5 1, 3) := by decide +kernel
theorem dX5_voyage_81 : decode cX5_voyage 81 = .ok (.goto (-32), 3) := by decide +kernel
theorem dX5_voyage_84 : decode cX5_voyage 84 = .ok (.iload_n 3, 1) := by decide +kernel
theorem dX5_voyage_85 : decode cX5_voyage 85 = .ok (.iconst 2, 1) := by decide +kernel
theorem dX5_voyage_86 : decode cX5_voyage 86 = .ok (.if_icmp .ne 6, 3) := by decide +kernel
theorem dX5_voyage_89 : decode cX5_voyage 89 = .ok (.iload 4, 2) := by decide +kernel
theorem dX5_voyage_91 : decode cX5_voyage 91 = .ok (.ireturn, 1) := by decide +kernel
theorem dX5_voyage_92 : decode cX5_voyage 92 = .ok (.iload_n 3, 1) := by decide +kernel
theorem dX5_voyage_93 : decode cX5_voyage 93 = .ok (.ifCond .ne 13, 3) := by decide +kernel
theorem dX5_voyage_96 : decode cX5_voyage 96 = .ok (.aload_n 0, 1) := by decide +kernel
theorem dX5_voyage_97 : decode cX5_voyage 97 = .ok (.getfield 23, 3) := by decide +kernel
theorem dX5_voyage_100 : decode cX5_voyage 100 = .ok (.getfield 181, 3) := by decide +kernel
theorem dX5_voyage_103 : decode cX5_voyage 103 = .ok (.goto 10, 3) := by decide +kernel
theorem dX5_voyage_106 : decode cX5_voyage 106 = .ok (.aload_n 0, 1) := by decide +kernel
theorem dX5_voyage_107 : decode cX5_voyage 107 = .ok (.getfield 23, 3) := by decide +kernel
theorem dX5_voyage_110 : decode cX5_voyage 110 = .ok (.getfield 184, 3) := by decide +kernel
theorem dX5_voyage_113 : decode cX5_voyage 113 = .ok (.ireturn, 1) := by decide +kernel
theorem dX5_keep_0 : decode cX5_keep 0 = .ok (.aload_n 0, 1) := by decide +kernel
theorem dX5_keep_1 : decode cX5_keep 1 = .ok (.getfield 42, 3) := by decide +kernel
theorem dX5_keep_4 : decode cX5_keep 4 = .ok (.getfield 92, 3) := by decide +kernel
theorem dX5_keep_7 : decode cX5_keep 7 = .ok (.iconst 2, 1) := by decide +kernel
theorem dX5_keep_8 : decode cX5_keep 8 = .ok (.if_icmp .lt 6, 3) := by decide +kernel
theorem dX5_keep_11 : decode cX5_keep 11 = .ok (.bipush (-3), 2) := by decide +kernel
theorem dX5_keep_13 : decode cX5_keep 13 = .ok (.ireturn, 1) := by decide +kernel
theorem dX5_keep_14 : decode cX5_keep 14 = .ok (.aload_n 0, 1) := by decide +kernel
theorem dX5_keep_15 : decode cX5_keep 15 = .ok (.getfield 42, 3) := by decide +kernel
theorem dX5_keep_18 : decode cX5_keep 18 = .ok (.aload_n 0, 1) := by decide +kernel
theorem dX5_keep_19 : decode cX5_keep 19 = .ok (.getfield 19, 3) := by decide +kernel
theorem dX5_keep_22 : decode cX5_keep 22 = .ok (.invokevirtual 149, 3) := by decide +kernel
theorem dX5_keep_25 : decode cX5_keep 25 = .ok (.aload_n 0, 1) := by decide +kernel
theorem dX5_keep_26 : decode cX5_keep 26 = .ok (.getfield 42, 3) := by decide +kernel
theorem dX5_keep_29 : decode cX5_keep 29 = .ok (.getfield 92, 3) := by decide +kernel
theorem dX5_keep_32 : decode cX5_keep 32 = .ok (.ireturn, 1) := by decide +kernel
theorem dX5_back_0 : decode cX5_back 0 = .ok (.aload_n 0, 1) := by decide +kernel
theorem dX5_back_1 : decode cX5_back 1 = .ok (.getfield 42, 3) := by decide +kernel
theorem dX5_back_4 : decode cX5_back 4 = .ok (.aload_n 0, 1) := by decide +kernel
theorem dX5_back_5 : decode cX5_back 5 = .ok (.getfield 19, 3) := by decide +kernel
theorem dX5_back_8 : decode cX5_back 8 = .ok (.invokevirtual 177, 3) := by decide +kernel
theorem dX5_back_11 : decode cX5_back 11 = .ok (.ifCond .ne 6, 3) := by decide +kernel
theorem dX5_back_14 : decode cX5_back 14 = .ok (.bipush (-2), 2) := by decide +kernel
theorem dX5_back_16 : decode cX5_back 16 = .ok (.ireturn, 1) := by decide +kernel
theorem dX5_back_17 : decode cX5_back 17 = .ok (.aload_n 0, 1) := by decide +kernel
theorem dX5_back_18 : decode cX5_back 18 = .ok (.getfield 38, 3) := by decide +kernel
theorem dX5_back_21 : decode cX5_back 21 = .ok (.iconst 0, 1) := by decide +kernel
theorem dX5_back_22 : decode cX5_back 22 = .ok (.putfield 92, 3) := by decide +kernel
theorem dX5_back_25 : decode cX5_back 25 = .ok (.aload_n 0, 1) := by decide +kernel
theorem dX5_back_26 : decode cX5_back 26 = .ok (.getfield 42, 3) := by decide +kernel
theorem dX5_back_29 : decode cX5_back 29 = .ok (.getfield 92, 3) := by decide +kernel
theorem dX5_back_32 : decode cX5_back 32 = .ok (.ireturn, 1) := by decide +kernel
theorem dX5_count_0 : decode cX5_count 0 = .ok (.iload_n 1, 1) := by decide +kernel
theorem dX5_count_1 : decode cX5_count 1 = .ok (.tableswitch 182 0 12 #[67, 75, 83, 91, 99, 107, 115, 123, 131, 150, 158, 166, 174], 67) := by decide +kernel
theorem dX5_count_68 : decode cX5_count 68 = .ok (.aload_n 0, 1) := by decide +kernel
theorem dX5_count_69 : decode cX5_count 69 = .ok (.getfield 19, 3) := by decide +kernel
theorem dX5_count_72 : decode cX5_count 72 = .ok (.getfield 79, 3) := by decide +kernel
theorem dX5_count_75 : decode cX5_count 75 = .ok (.ireturn, 1) := by decide +kernel
theorem dX5_count_76 : decode cX5_count 76 = .ok (.aload_n 0, 1) := by decide +kernel
theorem dX5_count_77 : decode cX5_count 77 = .ok (.getfield 19, 3) := by decide +kernel
theorem dX5_count_80 : decode cX5_count 80 = .ok (.getfield 82, 3) := by decide +kernel
theorem dX5_count_83 : decode cX5_count 83 = .ok (.ireturn, 1) := by decide +kernel
theorem dX5_count_84 : decode cX5_count 84 = .ok (.aload_n 0, 1) := by decide +kernel
theorem dX5_count_85 : decode cX5_count 85 = .ok (.getfield 19, 3) := by decide +kernel
theorem dX5_count_88 : decode cX5_count 88 = .ok (.getfield 146, 3) := by decide +kernel
theorem dX5_count_91 : decode cX5_count 91 = .ok (.ireturn, 1) := by decide +kernel
theorem dX5_count_92 : decode cX5_count 92 = .ok (.aload_n 0, 1) := by decide +kernel
theorem dX5_count_93 : decode cX5_count 93 = .ok (.getfield 19, 3) := by decide +kernel
theorem dX5_count_96 : decode cX5_count 96 = .ok (.getfield 181, 3) := by decide +kernel
theorem dX5_count_99 : decode cX5_count 99 = .ok (.ireturn, 1) := by decide +kernel
theorem dX5_count_100 : decode cX5_count 100 = .ok (.aload_n 0, 1) := by decide +kernel
theorem dX5_count_101 : decode cX5_count 101 = .ok (.getfield 19, 3) := by decide +kernel
theorem dX5_count_104 : decode cX5_count 104 = .ok (.getfield 184, 3) := by decide +kernel
theorem dX5_count_107 : decode cX5_count 107 = .ok (.ireturn, 1) := by decide +kernel
theorem dX5_count_108 : decode cX5_count 108 = .ok (.aload_n 0, 1) := by decide +kernel
theorem dX5_count_109 : decode cX5_count 109 = .ok (.getfield 19, 3) := by decide +kernel
theorem dX5_count_112 : decode cX5_count 112 = .ok (.getfield 243, 3) := by decide +kernel
theorem dX5_count_115 : decode cX5_count 115 = .ok (.ireturn, 1) := by decide +kernel
theorem dX5_count_116 : decode cX5_count 116 = .ok (.aload_n 0, 1) := by decide +kernel
theorem dX5_count_117 : decode cX5_count 117 = .ok (.getfield 19, 3) := by decide +kernel
theorem dX5_count_120 : decode cX5_count 120 = .ok (.getfield 158, 3) := by decide +kernel
theorem dX5_count_123 : decode cX5_count 123 = .ok (.ireturn, 1) := by decide +kernel
theorem dX5_count_124 : decode cX5_count 124 = .ok (.aload_n 0, 1) := by decide +kernel
theorem dX5_count_125 : decode cX5_count 125 = .ok (.getfield 19, 3) := by decide +kernel
theorem dX5_count_128 : decode cX5_count 128 = .ok (.getfield 155, 3) := by decide +kernel
theorem dX5_count_131 : decode cX5_count 131 = .ok (.ireturn, 1) := by decide +kernel
theorem dX5_count_132 : decode cX5_count 132 = .ok (.aload_n 0, 1) := by decide +kernel
theorem dX5_count_133 : decode cX5_count 133 = .ok (.getfield 19, 3) := by decide +kernel
theorem dX5_count_136 : decode cX5_count 136 = .ok (.getfield 79, 3) := by decide +kernel
theorem dX5_count_139 : decode cX5_count 139 = .ok (.aload_n 0, 1) := by decide +kernel
theorem dX5_count_140 : decode cX5_count 140 = .ok (.getfield 19, 3) := by decide +kernel
theorem dX5_count_143 : decode cX5_count 143 = .ok (.invokevirtual 169, 3) := by decide +kernel
theorem dX5_count_146 : decode cX5_count 146 = .ok (.invokestatic 172, 3) := by decide +kernel
theorem dX5_count_149 : decode cX5_count 149 = .ok (.isub, 1) := by decide +kernel
theorem dX5_count_150 : decode cX5_count 150 = .ok (.ireturn, 1) := by decide +kernel
theorem dX5_count_151 : decode cX5_count 151 = .ok (.aload_n 0, 1) := by decide +kernel
theorem dX5_count_152 : decode cX5_count 152 = .ok (.getfield 29, 3) := by decide +kernel
theorem dX5_count_155 : decode cX5_count 155 = .ok (.getfield 89, 3) := by decide +kernel
theorem dX5_count_158 : decode cX5_count 158 = .ok (.ireturn, 1) := by decide +kernel
theorem dX5_count_159 : decode cX5_count 159 = .ok (.aload_n 0, 1) := by decide +kernel
theorem dX5_count_160 : decode cX5_count 160 = .ok (.getfield 38, 3) := by decide +kernel
theorem dX5_count_163 : decode cX5_count 163 = .ok (.getfield 92, 3) := by decide +kernel
theorem dX5_count_166 : decode cX5_count 166 = .ok (.ireturn, 1) := by decide +kernel
theorem dX5_count_167 : decode cX5_count 167 = .ok (.aload_n 0, 1) := by decide +kernel
theorem dX5_count_168 : decode cX5_count 168 = .ok (.getfield 42, 3) := by decide +kernel
theorem dX5_count_171 : decode cX5_count 171 = .ok (.getfield 92, 3) := by decide +kernel
theorem dX5_count_174 : decode cX5_count 174 = .ok (.ireturn, 1) := by decide +kernel
theorem dX5_count_175 : decode cX5_count 175 = .ok (.aload_n 0, 1) := by decide +kernel
theorem dX5_count_176 : decode cX5_count 176 = .ok (.getfield 10, 3) := by decide +kernel
theorem dX5_count_179 : decode cX5_count 179 = .ok (.getfield 72, 3) := by decide +kernel
theorem dX5_count_182 : decode cX5_count 182 = .ok (.ireturn, 1) := by decide +kernel
theorem dX5_count_183 : decode cX5_count 183 = .ok (.iconst (-1), 1) := by decide +kernel
theorem dX5_count_184 : decode cX5_count 184 = .ok (.ireturn, 1) := by decide +kernel
theorem dX5_within_0 : decode cX5_within 0 = .ok (.iload_n 0, 1) := by decide +kernel
theorem dX5_within_1 : decode cX5_within 1 = .ok (.iload_n 1, 1) := by decide +kernel
theorem dX5_within_2 : decode cX5_within 2 = .ok (.if_icmp .lt 12, 3) := by decide +kernel
theorem dX5_within_5 : decode cX5_within 5 = .ok (.iload_n 0, 1) := by decide +kernel
theorem dX5_within_6 : decode cX5_within 6 = .ok (.iload_n 2, 1) := by decide +kernel
theorem dX5_within_7 : decode cX5_within 7 = .ok (.if_icmp .gt 7, 3) := by decide +kernel
theorem dX5_within_10 : decode cX5_within 10 = .ok (.iconst 1, 1) := by decide +kernel
theorem dX5_within_11 : decode cX5_within 11 = .ok (.goto 4, 3) := by decide +kernel
theorem dX5_within_14 : decode cX5_within 14 = .ok (.iconst 0, 1) := by decide +kernel
theorem dX5_within_15 : decode cX5_within 15 = .ok (.ireturn, 1) := by decide +kernel
theorem dX5_isCell_0 : decode cX5_isCell 0 = .ok (.iload_n 0, 1) := by decide +kernel
theorem dX5_isCell_1 : decode cX5_isCell 1 = .ok (.ifCond .lt 23, 3) := by decide +kernel
theorem dX5_isCell_4 : decode cX5_isCell 4 = .ok (.iload_n 0, 1) := by decide +kernel
theorem dX5_isCell_5 : decode cX5_isCell 5 = .ok (.bipush 8, 2) := by decide +kernel
theorem dX5_isCell_7 : decode cX5_isCell 7 = .ok (.if_icmp .gt 17, 3) := by decide +kernel
theorem dX5_isCell_10 : decode cX5_isCell 10 = .ok (.iload_n 1, 1) := by decide +kernel
theorem dX5_isCell_11 : decode cX5_isCell 11 = .ok (.ifCond .lt 13, 3) := by decide +kernel
theorem dX5_isCell_14 : decode cX5_isCell 14 = .ok (.iload_n 1, 1) := by decide +kernel
theorem dX5_isCell_15 : decode cX5_isCell 15 = .ok (.bipush 8, 2) := by decide +kernel
theorem dX5_isCell_17 : decode cX5_isCell 17 = .ok (.if_icmp .gt 7, 3) := by decide +kernel
theorem dX5_isCell_20 : decode cX5_isCell 20 = .ok (.iconst 1, 1) := by decide +kernel
theorem dX5_isCell_21 : decode cX5_isCell 21 = .ok (.goto 4, 3) := by decide +kernel
theorem dX5_isCell_24 : decode cX5_isCell 24 = .ok (.iconst 0, 1) := by decide +kernel
theorem dX5_isCell_25 : decode cX5_isCell 25 = .ok (.ireturn, 1) := by decide +kernel
theorem dX5_cellOf_0 : decode cX5_cellOf 0 = .ok (.iload_n 1, 1) := by decide +kernel
theorem dX5_cellOf_1 : decode cX5_cellOf 1 = .ok (.bipush 9, 2) := by decide +kernel
theorem dX5_cellOf_3 : decode cX5_cellOf 3 = .ok (.imul, 1) := by decide +kernel
theorem dX5_cellOf_4 : decode cX5_cellOf 4 = .ok (.iload_n 0, 1) := by decide +kernel
theorem dX5_cellOf_5 : decode cX5_cellOf 5 = .ok (.iadd, 1) := by decide +kernel
theorem dX5_cellOf_6 : decode cX5_cellOf 6 = .ok (.ireturn, 1) := by decide +kernel
theorem dX5_nameOf_0 : decode cX5_nameOf 0 = .ok (.bipush 100, 2) := by decide +kernel
theorem dX5_nameOf_2 : decode cX5_nameOf 2 = .ok (.iload_n 0, 1) := by decide +kernel
theorem dX5_nameOf_3 : decode cX5_nameOf 3 = .ok (.imul, 1) := by decide +kernel
theorem dX5_nameOf_4 : decode cX5_nameOf 4 = .ok (.bipush 10, 2) := by decide +kernel
theorem dX5_nameOf_6 : decode cX5_nameOf 6 = .ok (.iload_n 1, 1) := by decide +kernel
theorem dX5_nameOf_7 : decode cX5_nameOf 7 = .ok (.imul, 1) := by decide +kernel
theorem dX5_nameOf_8 : decode cX5_nameOf 8 = .ok (.iadd, 1) := by decide +kernel
theorem dX5_nameOf_9 : decode cX5_nameOf 9 = .ok (.iload_n 2, 1) := by decide +kernel
theorem dX5_nameOf_10 : decode cX5_nameOf 10 = .ok (.iadd, 1) := by decide +kernel
theorem dX5_nameOf_11 : decode cX5_nameOf 11 = .ok (.ireturn, 1) := by decide +kernel
theorem dX5_endsAt_0 : decode cX5_endsAt 0 = .ok (.aload_n 0, 1) := by decide +kernel
theorem dX5_endsAt_1 : decode cX5_endsAt 1 = .ok (.getfield 23, 3) := by decide +kernel
theorem dX5_endsAt_4 : decode cX5_endsAt 4 = .ok (.aload_n 0, 1) := by decide +kernel
theorem dX5_endsAt_5 : decode cX5_endsAt 5 = .ok (.getfield 19, 3) := by decide +kernel
theorem dX5_endsAt_8 : decode cX5_endsAt 8 = .ok (.invokevirtual 85, 3) := by decide +kernel
theorem dX5_endsAt_11 : decode cX5_endsAt 11 = .ok (.iconst 0, 1) := by decide +kernel
theorem dX5_endsAt_12 : decode cX5_endsAt 12 = .ok (.istore 4, 2) := by decide +kernel
theorem dX5_endsAt_14 : decode cX5_endsAt 14 = .ok (.iload 4, 2) := by decide +kernel
theorem dX5_endsAt_16 : decode cX5_endsAt 16 = .ok (.aload_n 0, 1) := by decide +kernel
theorem dX5_endsAt_17 : decode cX5_endsAt 17 = .ok (.getfield 23, 3) := by decide +kernel
theorem dX5_endsAt_20 : decode cX5_endsAt 20 = .ok (.getfield 79, 3) := by decide +kernel
theorem dX5_endsAt_23 : decode cX5_endsAt 23 = .ok (.if_icmp .ge 29, 3) := by decide +kernel
theorem dX5_endsAt_26 : decode cX5_endsAt 26 = .ok (.aload_n 0, 1) := by decide +kernel
theorem dX5_endsAt_27 : decode cX5_endsAt 27 = .ok (.getfield 23, 3) := by decide +kernel
theorem dX5_endsAt_30 : decode cX5_endsAt 30 = .ok (.getfield 111, 3) := by decide +kernel
theorem dX5_endsAt_33 : decode cX5_endsAt 33 = .ok (.iload 4, 2) := by decide +kernel
theorem dX5_endsAt_35 : decode cX5_endsAt 35 = .ok (.iconst 1, 1) := by decide +kernel
theorem dX5_endsAt_36 : decode cX5_endsAt 36 = .ok (.iload_n 1, 1) := by decide +kernel
theorem dX5_endsAt_37 : decode cX5_endsAt 37 = .ok (.iload 4, 2) := by decide +kernel
theorem dX5_endsAt_39 : decode cX5_endsAt 39 = .ok (.ishr, 1) := by decide +kernel
theorem dX5_endsAt_40 : decode cX5_endsAt 40 = .ok (.iconst 1, 1) := by decide +kernel
theorem dX5_endsAt_41 : decode cX5_endsAt 41 = .ok (.iand, 1) := by decide +kernel
theorem dX5_endsAt_42 : decode cX5_endsAt 42 = .ok (.isub, 1) := by decide +kernel
theorem dX5_endsAt_43 : decode cX5_endsAt 43 = .ok (.invokestatic 165, 3) := by decide +kernel
theorem dX5_endsAt_46 : decode cX5_endsAt 46 = .ok (.iinc 4 1, 3) := by decide +kernel
theorem dX5_endsAt_49 : decode cX5_endsAt 49 = .ok (.goto (-35), 3) := by decide +kernel
theorem dX5_endsAt_52 : decode cX5_endsAt 52 = .ok (.aload_n 0, 1) := by decide +kernel
theorem dX5_endsAt_53 : decode cX5_endsAt 53 = .ok (.getfield 23, 3) := by decide +kernel
theorem dX5_endsAt_56 : decode cX5_endsAt 56 = .ok (.bipush 10, 2) := by decide +kernel
theorem dX5_endsAt_58 : decode cX5_endsAt 58 = .ok (.invokevirtual 152, 3) := by decide +kernel
theorem dX5_endsAt_61 : decode cX5_endsAt 61 = .ok (.pop, 1) := by decide +kernel
theorem dX5_endsAt_62 : decode cX5_endsAt 62 = .ok (.aload_n 0, 1) := by decide +kernel
theorem dX5_endsAt_63 : decode cX5_endsAt 63 = .ok (.getfield 23, 3) := by decide +kernel
theorem dX5_endsAt_66 : decode cX5_endsAt 66 = .ok (.iload_n 2, 1) := by decide +kernel
theorem dX5_endsAt_67 : decode cX5_endsAt 67 = .ok (.iload_n 3, 1) := by decide +kernel
theorem dX5_endsAt_68 : decode cX5_endsAt 68 = .ok (.invokevirtual 195, 3) := by decide +kernel
theorem dX5_endsAt_71 : decode cX5_endsAt 71 = .ok (.ireturn, 1) := by decide +kernel
theorem dX5_bitsThatFit_0 : decode cX5_bitsThatFit 0 = .ok (.iconst 0, 1) := by decide +kernel
theorem dX5_bitsThatFit_1 : decode cX5_bitsThatFit 1 = .ok (.istore 5, 2) := by decide +kernel
theorem dX5_bitsThatFit_3 : decode cX5_bitsThatFit 3 = .ok (.iload_n 3, 1) := by decide +kernel
theorem dX5_bitsThatFit_4 : decode cX5_bitsThatFit 4 = .ok (.istore 6, 2) := by decide +kernel
theorem dX5_bitsThatFit_6 : decode cX5_bitsThatFit 6 = .ok (.iload 6, 2) := by decide +kernel
theorem dX5_bitsThatFit_8 : decode cX5_bitsThatFit 8 = .ok (.iload 4, 2) := by decide +kernel
theorem dX5_bitsThatFit_10 : decode cX5_bitsThatFit 10 = .ok (.if_icmp .gt 39, 3) := by decide +kernel
theorem dX5_bitsThatFit_13 : decode cX5_bitsThatFit 13 = .ok (.aload_n 1, 1) := by decide +kernel
theorem dX5_bitsThatFit_14 : decode cX5_bitsThatFit 14 = .ok (.iload_n 2, 1) := by decide +kernel
theorem dX5_bitsThatFit_15 : decode cX5_bitsThatFit 15 = .ok (.iload 6, 2) := by decide +kernel
theorem dX5_bitsThatFit_17 : decode cX5_bitsThatFit 17 = .ok (.invokestatic 165, 3) := by decide +kernel
theorem dX5_bitsThatFit_20 : decode cX5_bitsThatFit 20 = .ok (.aload_n 0, 1) := by decide +kernel
theorem dX5_bitsThatFit_21 : decode cX5_bitsThatFit 21 = .ok (.getfield 29, 3) := by decide +kernel
theorem dX5_bitsThatFit_24 : decode cX5_bitsThatFit 24 = .ok (.aload_n 0, 1) := by decide +kernel
theorem dX5_bitsThatFit_25 : decode cX5_bitsThatFit 25 = .ok (.getfield 23, 3) := by decide +kernel
theorem dX5_bitsThatFit_28 : decode cX5_bitsThatFit 28 = .ok (.invokevirtual 222, 3) := by decide +kernel
theorem dX5_bitsThatFit_31 : decode cX5_bitsThatFit 31 = .ok (.ifCond .eq 12, 3) := by decide +kernel
theorem dX5_bitsThatFit_34 : decode cX5_bitsThatFit 34 = .ok (.iload 5, 2) := by decide +kernel
theorem dX5_bitsThatFit_36 : decode cX5_bitsThatFit 36 = .ok (.iconst 1, 1) := by decide +kernel
theorem dX5_bitsThatFit_37 : decode cX5_bitsThatFit 37 = .ok (.iload 6, 2) := by decide +kernel
theorem dX5_bitsThatFit_39 : decode cX5_bitsThatFit 39 = .ok (.ishl, 1) := by decide +kernel
theorem dX5_bitsThatFit_40 : decode cX5_bitsThatFit 40 = .ok (.ior, 1) := by decide +kernel
theorem dX5_bitsThatFit_41 : decode cX5_bitsThatFit 41 = .ok (.istore 5, 2) := by decide +kernel
theorem dX5_bitsThatFit_43 : decode cX5_bitsThatFit 43 = .ok (.iinc 6 1, 3) := by decide +kernel
theorem dX5_bitsThatFit_46 : decode cX5_bitsThatFit 46 = .ok (.goto (-40), 3) := by decide +kernel
theorem dX5_bitsThatFit_49 : decode cX5_bitsThatFit 49 = .ok (.iload 5, 2) := by decide +kernel
theorem dX5_bitsThatFit_51 : decode cX5_bitsThatFit 51 = .ok (.ireturn, 1) := by decide +kernel
theorem dX5_spreadAnHour_0 : decode cX5_spreadAnHour 0 = .ok (.aload_n 0, 1) := by decide +kernel
theorem dX5_spreadAnHour_1 : decode cX5_spreadAnHour 1 = .ok (.getfield 23, 3) := by decide +kernel
theorem dX5_spreadAnHour_4 : decode cX5_spreadAnHour 4 = .ok (.aload_n 0, 1) := by decide +kernel
theorem dX5_spreadAnHour_5 : decode cX5_spreadAnHour 5 = .ok (.getfield 19, 3) := by decide +kernel
theorem dX5_spreadAnHour_8 : decode cX5_spreadAnHour 8 = .ok (.invokevirtual 85, 3) := by decide +kernel
theorem dX5_spreadAnHour_11 : decode cX5_spreadAnHour 11 = .ok (.aload_n 0, 1) := by decide +kernel
theorem dX5_spreadAnHour_12 : decode cX5_spreadAnHour 12 = .ok (.getfield 49, 3) := by decide +kernel
theorem dX5_spreadAnHour_15 : decode cX5_spreadAnHour 15 = .ok (.iconst 0, 1) := by decide +kernel
theorem dX5_spreadAnHour_16 : decode cX5_spreadAnHour 16 = .ok (.invokestatic 228, 3) := by decide +kernel
theorem dX5_spreadAnHour_19 : decode cX5_spreadAnHour 19 = .ok (.iconst 0, 1) := by decide +kernel
theorem dX5_spreadAnHour_20 : decode cX5_spreadAnHour 20 = .ok (.istore_n 2, 1) := by decide +kernel
theorem dX5_spreadAnHour_21 : decode cX5_spreadAnHour 21 = .ok (.iload_n 2, 1) := by decide +kernel
theorem dX5_spreadAnHour_22 : decode cX5_spreadAnHour 22 = .ok (.bipush 81, 2) := by decide +kernel
theorem dX5_spreadAnHour_24 : decode cX5_spreadAnHour 24 = .ok (.if_icmp .ge 143, 3) := by decide +kernel
theorem dX5_spreadAnHour_27 : decode cX5_spreadAnHour 27 = .ok (.aload_n 0, 1) := by decide +kernel
theorem dX5_spreadAnHour_28 : decode cX5_spreadAnHour 28 = .ok (.getfield 45, 3) := by decide +kernel
theorem dX5_spreadAnHour_31 : decode cX5_spreadAnHour 31 = .ok (.iload_n 2, 1) := by decide +kernel
theorem dX5_spreadAnHour_32 : decode cX5_spreadAnHour 32 = .ok (.invokestatic 99, 3) := by decide +kernel
theorem dX5_spreadAnHour_35 : decode cX5_spreadAnHour 35 = .ok (.istore_n 3, 1) := by decide +kernel
theorem dX5_spreadAnHour_36 : decode cX5_spreadAnHour 36 = .ok (.iconst 0, 1) := by decide +kernel
theorem dX5_spreadAnHour_37 : decode cX5_spreadAnHour 37 = .ok (.istore 4, 2) := by decide +kernel
theorem dX5_spreadAnHour_39 : decode cX5_spreadAnHour 39 = .ok (.iload 4, 2) := by decide +kernel
theorem dX5_spreadAnHour_41 : decode cX5_spreadAnHour 41 = .ok (.iconst 1, 1) := by decide +kernel
theorem dX5_spreadAnHour_42 : decode cX5_spreadAnHour 42 = .ok (.if_icmp .gt 119, 3) := by decide +kernel
theorem dX5_spreadAnHour_45 : decode cX5_spreadAnHour 45 = .ok (.iload_n 3, 1) := by decide +kernel
theorem dX5_spreadAnHour_46 : decode cX5_spreadAnHour 46 = .ok (.ifCond .le 115, 3) := by decide +kernel
theorem dX5_spreadAnHour_49 : decode cX5_spreadAnHour 49 = .ok (.aload_n 0, 1) := by decide +kernel
theorem dX5_spreadAnHour_50 : decode cX5_spreadAnHour 50 = .ok (.getfield 23, 3) := by decide +kernel
theorem dX5_spreadAnHour_53 : decode cX5_spreadAnHour 53 = .ok (.iload_n 2, 1) := by decide +kernel
theorem dX5_spreadAnHour_54 : decode cX5_spreadAnHour 54 = .ok (.bipush 9, 2) := by decide +kernel
theorem dX5_spreadAnHour_56 : decode cX5_spreadAnHour 56 = .ok (.irem, 1) := by decide +kernel
theorem dX5_spreadAnHour_57 : decode cX5_spreadAnHour 57 = .ok (.iload_n 2, 1) := by decide +kernel
theorem dX5_spreadAnHour_58 : decode cX5_spreadAnHour 58 = .ok (.bipush 9, 2) := by decide +kernel
theorem dX5_spreadAnHour_60 : decode cX5_spreadAnHour 60 = .ok (.idiv, 1) := by decide +kernel
theorem dX5_spreadAnHour_61 : decode cX5_spreadAnHour 61 = .ok (.invokevirtual 202, 3) := by decide +kernel
theorem dX5_spreadAnHour_64 : decode cX5_spreadAnHour 64 = .ok (.aload_n 0, 1) := by decide +kernel
theorem dX5_spreadAnHour_65 : decode cX5_spreadAnHour 65 = .ok (.getfield 23, 3) := by decide +kernel
theorem dX5_spreadAnHour_68 : decode cX5_spreadAnHour 68 = .ok (.iload 4, 2) := by decide +kernel
theorem dX5_spreadAnHour_70 : decode cX5_spreadAnHour 70 = .ok (.iconst 1, 1) := by decide +kernel
theorem dX5_spreadAnHour_71 : decode cX5_spreadAnHour 71 = .ok (.if_icmp .ne 7, 3) := by decide +kernel
theorem dX5_spreadAnHour_74 : decode cX5_spreadAnHour 74 = .ok (.iconst 0, 1) := by decide +kernel
theorem dX5_spreadAnHour_75 : decode cX5_spreadAnHour 75 = .ok (.goto 10, 3) := by decide +kernel
theorem dX5_spreadAnHour_78 : decode cX5_spreadAnHour 78 = .ok (.aload_n 0, 1) := by decide +kernel
theorem dX5_spreadAnHour_79 : decode cX5_spreadAnHour 79 = .ok (.getfield 19, 3) := by decide +kernel
theorem dX5_spreadAnHour_82 : decode cX5_spreadAnHour 82 = .ok (.getfield 155, 3) := by decide +kernel
theorem dX5_spreadAnHour_85 : decode cX5_spreadAnHour 85 = .ok (.putfield 155, 3) := by decide +kernel
theorem dX5_spreadAnHour_88 : decode cX5_spreadAnHour 88 = .ok (.aload_n 0, 1) := by decide +kernel
theorem dX5_spreadAnHour_89 : decode cX5_spreadAnHour 89 = .ok (.getfield 23, 3) := by decide +kernel
theorem dX5_spreadAnHour_92 : decode cX5_spreadAnHour 92 = .ok (.iconst 1, 1) := by decide +kernel
theorem dX5_spreadAnHour_93 : decode cX5_spreadAnHour 93 = .ok (.invokevirtual 152, 3) := by decide +kernel
theorem dX5_spreadAnHour_96 : decode cX5_spreadAnHour 96 = .ok (.pop, 1) := by decide +kernel
theorem dX5_spreadAnHour_97 : decode cX5_spreadAnHour 97 = .ok (.aload_n 0, 1) := by decide +kernel
theorem dX5_spreadAnHour_98 : decode cX5_spreadAnHour 98 = .ok (.getfield 23, 3) := by decide +kernel
theorem dX5_spreadAnHour_101 : decode cX5_spreadAnHour 101 = .ok (.getfield 181, 3) := by decide +kernel
theorem dX5_spreadAnHour_104 : decode cX5_spreadAnHour 104 = .ok (.aload_n 0, 1) := by decide +kernel
theorem dX5_spreadAnHour_105 : decode cX5_spreadAnHour 105 = .ok (.getfield 23, 3) := by decide +kernel
theorem dX5_spreadAnHour_108 : decode cX5_spreadAnHour 108 = .ok (.getfield 184, 3) := by decide +kernel
theorem dX5_spreadAnHour_111 : decode cX5_spreadAnHour 111 = .ok (.invokestatic 225, 3) := by decide +kernel
theorem dX5_spreadAnHour_114 : decode cX5_spreadAnHour 114 = .ok (.istore 5, 2) := by decide +kernel
theorem dX5_spreadAnHour_116 : decode cX5_spreadAnHour 116 = .ok (.iload 4, 2) := by decide +kernel
theorem dX5_spreadAnHour_118 : decode cX5_spreadAnHour 118 = .ok (.iconst 1, 1) := by decide +kernel
theorem dX5_spreadAnHour_119 : decode cX5_spreadAnHour 119 = .ok (.if_icmp .ne 7, 3) := by decide +kernel
theorem dX5_spreadAnHour_122 : decode cX5_spreadAnHour 122 = .ok (.iload_n 1, 1) := by decide +kernel
theorem dX5_spreadAnHour_123 : decode cX5_spreadAnHour 123 = .ok (.goto 7, 3) := by decide +kernel
theorem dX5_spreadAnHour_126 : decode cX5_spreadAnHour 126 = .ok (.bipush 10, 2) := by decide +kernel
theorem dX5_spreadAnHour_128 : decode cX5_spreadAnHour 128 = .ok (.iload_n 1, 1) := by decide +kernel
theorem dX5_spreadAnHour_129 : decode cX5_spreadAnHour 129 = .ok (.isub, 1) := by decide +kernel
theorem dX5_spreadAnHour_130 : decode cX5_spreadAnHour 130 = .ok (.istore 6, 2) := by decide +kernel
theorem dX5_spreadAnHour_132 : decode cX5_spreadAnHour 132 = .ok (.aload_n 0, 1) := by decide +kernel
theorem dX5_spreadAnHour_133 : decode cX5_spreadAnHour 133 = .ok (.getfield 49, 3) := by decide +kernel
theorem dX5_spreadAnHour_136 : decode cX5_spreadAnHour 136 = .ok (.iload 5, 2) := by decide +kernel
theorem dX5_spreadAnHour_138 : decode cX5_spreadAnHour 138 = .ok (.aload_n 0, 1) := by decide +kernel
theorem dX5_spreadAnHour_139 : decode cX5_spreadAnHour 139 = .ok (.getfield 49, 3) := by decide +kernel
theorem dX5_spreadAnHour_142 : decode cX5_spreadAnHour 142 = .ok (.iload 5, 2) := by decide +kernel
theorem dX5_spreadAnHour_144 : decode cX5_spreadAnHour 144 = .ok (.invokestatic 99, 3) := by decide +kernel
theorem dX5_spreadAnHour_147 : decode cX5_spreadAnHour 147 = .ok (.iload_n 3, 1) := by decide +kernel
theorem dX5_spreadAnHour_148 : decode cX5_spreadAnHour 148 = .ok (.iload 6, 2) := by decide +kernel
theorem dX5_spreadAnHour_150 : decode cX5_spreadAnHour 150 = .ok (.imul, 1) := by decide +kernel
theorem dX5_spreadAnHour_151 : decode cX5_spreadAnHour 151 = .ok (.iadd, 1) := by decide +kernel
theorem dX5_spreadAnHour_152 : decode cX5_spreadAnHour 152 = .ok (.invokestatic 165, 3) := by decide +kernel
theorem dX5_spreadAnHour_155 : decode cX5_spreadAnHour 155 = .ok (.iinc 4 1, 3) := by decide +kernel
theorem dX5_spreadAnHour_158 : decode cX5_spreadAnHour 158 = .ok (.goto (-119), 3) := by decide +kernel
theorem dX5_spreadAnHour_161 : decode cX5_spreadAnHour 161 = .ok (.iinc 2 1, 3) := by decide +kernel
theorem dX5_spreadAnHour_164 : decode cX5_spreadAnHour 164 = .ok (.goto (-143), 3) := by decide +kernel
theorem dX5_spreadAnHour_167 : decode cX5_spreadAnHour 167 = .ok (.aload_n 0, 1) := by decide +kernel
theorem dX5_spreadAnHour_168 : decode cX5_spreadAnHour 168 = .ok (.getfield 49, 3) := by decide +kernel
theorem dX5_spreadAnHour_171 : decode cX5_spreadAnHour 171 = .ok (.aload_n 0, 1) := by decide +kernel
theorem dX5_spreadAnHour_172 : decode cX5_spreadAnHour 172 = .ok (.getfield 45, 3) := by decide +kernel
theorem dX5_spreadAnHour_175 : decode cX5_spreadAnHour 175 = .ok (.invokestatic 246, 3) := by decide +kernel
theorem dX5_spreadAnHour_178 : decode cX5_spreadAnHour 178 = .ok (.return_, 1) := by decide +kernel
theorem dX5_drawOf_0 : decode cX5_drawOf 0 = .ok (.ldc2_w 250, 3) := by decide +kernel
theorem dX5_drawOf_3 : decode cX5_drawOf 3 = .ok (.iload_n 0, 1) := by decide +kernel
theorem dX5_drawOf_4 : decode cX5_drawOf 4 = .ok (.i2l, 1) := by decide +kernel
theorem dX5_drawOf_5 : decode cX5_drawOf 5 = .ok (.lmul, 1) := by decide +kernel
theorem dX5_drawOf_6 : decode cX5_drawOf 6 = .ok (.ldc2_w 252, 3) := by decide +kernel
theorem dX5_drawOf_9 : decode cX5_drawOf 9 = .ok (.iload_n 1, 1) := by decide +kernel
theorem dX5_drawOf_10 : decode cX5_drawOf 10 = .ok (.i2l, 1) := by decide +kernel
theorem dX5_drawOf_11 : decode cX5_drawOf 11 = .ok (.lmul, 1) := by decide +kernel
theorem dX5_drawOf_12 : decode cX5_drawOf 12 = .ok (.ladd, 1) := by decide +kernel
theorem dX5_drawOf_13 : decode cX5_drawOf 13 = .ok (.lconst 1, 1) := by decide +kernel
theorem dX5_drawOf_14 : decode cX5_drawOf 14 = .ok (.ladd, 1) := by decide +kernel
theorem dX5_drawOf_15 : decode cX5_drawOf 15 = .ok (.lstore_n 2, 1) := by decide +kernel
theorem dX5_drawOf_16 : decode cX5_drawOf 16 = .ok (.lload_n 2, 1) := by decide +kernel
theorem dX5_drawOf_17 : decode cX5_drawOf 17 = .ok (.lload_n 2, 1) := by decide +kernel
theorem dX5_drawOf_18 : decode cX5_drawOf 18 = .ok (.lmul, 1) := by decide +kernel
theorem dX5_drawOf_19 : decode cX5_drawOf 19 = .ok (.ldc2_w 254, 3) := by decide +kernel
theorem dX5_drawOf_22 : decode cX5_drawOf 22 = .ok (.lrem, 1) := by decide +kernel
theorem dX5_drawOf_23 : decode cX5_drawOf 23 = .ok (.ldc2_w 256, 3) := by decide +kernel
theorem dX5_drawOf_26 : decode cX5_drawOf 26 = .ok (.ldiv, 1) := by decide +kernel
theorem dX5_drawOf_27 : decode cX5_drawOf 27 = .ok (.l2i, 1) := by decide +kernel
theorem dX5_drawOf_28 : decode cX5_drawOf 28 = .ok (.ireturn, 1) := by decide +kernel
theorem dX5_changeByDraw_0 : decode cX5_changeByDraw 0 = .ok (.iload_n 1, 1) := by decide +kernel
theorem dX5_changeByDraw_1 : decode cX5_changeByDraw 1 = .ok (.bipush 8, 2) := by decide +kernel
theorem dX5_changeByDraw_3 : decode cX5_changeByDraw 3 = .ok (.irem, 1) := by decide +kernel
theorem dX5_changeByDraw_4 : decode cX5_changeByDraw 4 = .ok (.istore_n 2, 1) := by decide +kernel
theorem dX5_changeByDraw_5 : decode cX5_changeByDraw 5 = .ok (.iload_n 2, 1) := by decide +kernel
theorem dX5_changeByDraw_6 : decode cX5_changeByDraw 6 = .ok (.ifCond .ne 33, 3) := by decide +kernel
theorem dX5_changeByDraw_9 : decode cX5_changeByDraw 9 = .ok (.aload_n 0, 1) := by decide +kernel
theorem dX5_changeByDraw_10 : decode cX5_changeByDraw 10 = .ok (.getfield 23, 3) := by decide +kernel
theorem dX5_changeByDraw_13 : decode cX5_changeByDraw 13 = .ok (.iload_n 1, 1) := by decide +kernel
theorem dX5_changeByDraw_14 : decode cX5_changeByDraw 14 = .ok (.bipush 8, 2) := by decide +kernel
theorem dX5_changeByDraw_16 : decode cX5_changeByDraw 16 = .ok (.idiv, 1) := by decide +kernel
theorem dX5_changeByDraw_17 : decode cX5_changeByDraw 17 = .ok (.iconst 5, 1) := by decide +kernel
theorem dX5_changeByDraw_18 : decode cX5_changeByDraw 18 = .ok (.irem, 1) := by decide +kernel
theorem dX5_changeByDraw_19 : decode cX5_changeByDraw 19 = .ok (.putfield 158, 3) := by decide +kernel
theorem dX5_changeByDraw_22 : decode cX5_changeByDraw 22 = .ok (.aload_n 0, 1) := by decide +kernel
theorem dX5_changeByDraw_23 : decode cX5_changeByDraw 23 = .ok (.getfield 23, 3) := by decide +kernel
theorem dX5_changeByDraw_26 : decode cX5_changeByDraw 26 = .ok (.iload_n 1, 1) := by decide +kernel
theorem dX5_changeByDraw_27 : decode cX5_changeByDraw 27 = .ok (.bipush 64, 2) := by decide +kernel
theorem dX5_changeByDraw_29 : decode cX5_changeByDraw 29 = .ok (.idiv, 1) := by decide +kernel
theorem dX5_changeByDraw_30 : decode cX5_changeByDraw 30 = .ok (.bipush 10, 2) := by decide +kernel
theorem dX5_changeByDraw_32 : decode cX5_changeByDraw 32 = .ok (.irem, 1) := by decide +kernel
theorem dX5_changeByDraw_33 : decode cX5_changeByDraw 33 = .ok (.putfield 155, 3) := by decide +kernel
theorem dX5_changeByDraw_36 : decode cX5_changeByDraw 36 = .ok (.goto 47, 3) := by decide +kernel
theorem dX5_changeByDraw_39 : decode cX5_changeByDraw 39 = .ok (.iload_n 2, 1) := by decide +kernel
theorem dX5_changeByDraw_40 : decode cX5_changeByDraw 40 = .ok (.iconst 1, 1) := by decide +kernel
theorem dX5_changeByDraw_41 : decode cX5_changeByDraw 41 = .ok (.if_icmp .ne 42, 3) := by decide +kernel
theorem dX5_changeByDraw_44 : decode cX5_changeByDraw 44 = .ok (.aload_n 0, 1) := by decide +kernel
theorem dX5_changeByDraw_45 : decode cX5_changeByDraw 45 = .ok (.getfield 23, 3) := by decide +kernel
theorem dX5_changeByDraw_48 : decode cX5_changeByDraw 48 = .ok (.getfield 79, 3) := by decide +kernel
theorem dX5_changeByDraw_51 : decode cX5_changeByDraw 51 = .ok (.ifCond .le 32, 3) := by decide +kernel
theorem dX5_changeByDraw_54 : decode cX5_changeByDraw 54 = .ok (.aload_n 0, 1) := by decide +kernel
theorem dX5_changeByDraw_55 : decode cX5_changeByDraw 55 = .ok (.getfield 23, 3) := by decide +kernel
theorem dX5_changeByDraw_58 : decode cX5_changeByDraw 58 = .ok (.getfield 108, 3) := by decide +kernel
theorem dX5_changeByDraw_61 : decode cX5_changeByDraw 61 = .ok (.iload_n 1, 1) := by decide +kernel
theorem dX5_changeByDraw_62 : decode cX5_changeByDraw 62 = .ok (.bipush 8, 2) := by decide +kernel
theorem dX5_changeByDraw_64 : decode cX5_changeByDraw 64 = .ok (.idiv, 1) := by decide +kernel
theorem dX5_changeByDraw_65 : decode cX5_changeByDraw 65 = .ok (.aload_n 0, 1) := by decide +kernel
theorem dX5_changeByDraw_66 : decode cX5_changeByDraw 66 = .ok (.getfield 23, 3) := by decide +kernel
theorem dX5_changeByDraw_69 : decode cX5_changeByDraw 69 = .ok (.getfield 79, 3) := by decide +kernel
theorem dX5_changeByDraw_72 : decode cX5_changeByDraw 72 = .ok (.irem, 1) := by decide +kernel
theorem dX5_changeByDraw_73 : decode cX5_changeByDraw 73 = .ok (.iload_n 1, 1) := by decide +kernel
theorem dX5_changeByDraw_74 : decode cX5_changeByDraw 74 = .ok (.bipush 64, 2) := by decide +kernel
theorem dX5_changeByDraw_76 : decode cX5_changeByDraw 76 = .ok (.idiv, 1) := by decide +kernel
theorem dX5_changeByDraw_77 : decode cX5_changeByDraw 77 = .ok (.bipush 6, 2) := by decide +kernel
theorem dX5_changeByDraw_79 : decode cX5_changeByDraw 79 = .ok (.irem, 1) := by decide +kernel
theorem dX5_changeByDraw_80 : decode cX5_changeByDraw 80 = .ok (.invokestatic 165, 3) := by decide +kernel
theorem dX5_changeByDraw_83 : decode cX5_changeByDraw 83 = .ok (.return_, 1) := by decide +kernel
theorem dX6_in_0 : decode cX6_in 0 = .ok (.iload_n 0, 1) := by decide +kernel
theorem dX6_in_1 : decode cX6_in 1 = .ok (.iload_n 1, 1) := by decide +kernel
theorem dX6_in_2 : decode cX6_in 2 = .ok (.if_icmp .lt 12, 3) := by decide +kernel
theorem dX6_in_5 : decode cX6_in 5 = .ok (.iload_n 0, 1) := by decide +kernel
theorem dX6_in_6 : decode cX6_in 6 = .ok (.iload_n 2, 1) := by decide +kernel
theorem dX6_in_7 : decode cX6_in 7 = .ok (.if_icmp .gt 7, 3) := by decide +kernel
theorem dX6_in_10 : decode cX6_in 10 = .ok (.iconst 1, 1) := by decide +kernel
theorem dX6_in_11 : decode cX6_in 11 = .ok (.goto 4, 3) := by decide +kernel
theorem dX6_in_14 : decode cX6_in 14 = .ok (.iconst 0, 1) := by decide +kernel
theorem dX6_in_15 : decode cX6_in 15 = .ok (.ireturn, 1) := by decide +kernel
theorem dX6_has_0 : decode cX6_has 0 = .ok (.iload_n 0, 1) := by decide +kernel
theorem dX6_has_1 : decode cX6_has 1 = .ok (.iload_n 1, 1) := by decide +kernel
theorem dX6_has_2 : decode cX6_has 2 = .ok (.ishr, 1) := by decide +kernel
theorem dX6_has_3 : decode cX6_has 3 = .ok (.iconst 1, 1) := by decide +kernel
theorem dX6_has_4 : decode cX6_has 4 = .ok (.iand, 1) := by decide +kernel
theorem dX6_has_5 : decode cX6_has 5 = .ok (.iconst 1, 1) := by decide +kernel
theorem dX6_has_6 : decode cX6_has 6 = .ok (.if_icmp .ne 7, 3) := by decide +kernel
theorem dX6_has_9 : decode cX6_has 9 = .ok (.iconst 1, 1) := by decide +kernel
theorem dX6_has_10 : decode cX6_has 10 = .ok (.goto 4, 3) := by decide +kernel
theorem dX6_has_13 : decode cX6_has 13 = .ok (.iconst 0, 1) := by decide +kernel
theorem dX6_has_14 : decode cX6_has 14 = .ok (.ireturn, 1) := by decide +kernel
theorem dX6_far_0 : decode cX6_far 0 = .ok (.iload_n 0, 1) := by decide +kernel
theorem dX6_far_1 : decode cX6_far 1 = .ok (.ifCond .ge 8, 3) := by decide +kernel
theorem dX6_far_4 : decode cX6_far 4 = .ok (.iload_n 0, 1) := by decide +kernel
theorem dX6_far_5 : decode cX6_far 5 = .ok (.ineg, 1) := by decide +kernel
theorem dX6_far_6 : decode cX6_far 6 = .ok (.goto 4, 3) := by decide +kernel
theorem dX6_far_9 : decode cX6_far 9 = .ok (.iload_n 0, 1) := by decide +kernel
theorem dX6_far_10 : decode cX6_far 10 = .ok (.ireturn, 1) := by decide +kernel
theorem dX6_bits_0 : decode cX6_bits 0 = .ok (.iconst 0, 1) := by decide +kernel
theorem dX6_bits_1 : decode cX6_bits 1 = .ok (.istore_n 1, 1) := by decide +kernel
theorem dX6_bits_2 : decode cX6_bits 2 = .ok (.iconst 0, 1) := by decide +kernel
theorem dX6_bits_3 : decode cX6_bits 3 = .ok (.istore_n 2, 1) := by decide +kernel
theorem dX6_bits_4 : decode cX6_bits 4 = .ok (.iload_n 2, 1) := by decide +kernel
theorem dX6_bits_5 : decode cX6_bits 5 = .ok (.bipush 7, 2) := by decide +kernel
theorem dX6_bits_7 : decode cX6_bits 7 = .ok (.if_icmp .ge 17, 3) := by decide +kernel
theorem dX6_bits_10 : decode cX6_bits 10 = .ok (.iload_n 1, 1) := by decide +kernel
theorem dX6_bits_11 : decode cX6_bits 11 = .ok (.iload_n 0, 1) := by decide +kernel
theorem dX6_bits_12 : decode cX6_bits 12 = .ok (.iload_n 2, 1) := by decide +kernel
theorem dX6_bits_13 : decode cX6_bits 13 = .ok (.ishr, 1) := by decide +kernel
theorem dX6_bits_14 : decode cX6_bits 14 = .ok (.iconst 1, 1) := by decide +kernel
theorem dX6_bits_15 : decode cX6_bits 15 = .ok (.iand, 1) := by decide +kernel
theorem dX6_bits_16 : decode cX6_bits 16 = .ok (.iadd, 1) := by decide +kernel
theorem dX6_bits_17 : decode cX6_bits 17 = .ok (.istore_n 1, 1) := by decide +kernel
theorem dX6_bits_18 : decode cX6_bits 18 = .ok (.iinc 2 1, 3) := by decide +kernel
theorem dX6_bits_21 : decode cX6_bits 21 = .ok (.goto (-17), 3) := by decide +kernel
theorem dX6_bits_24 : decode cX6_bits 24 = .ok (.iload_n 1, 1) := by decide +kernel
theorem dX6_bits_25 : decode cX6_bits 25 = .ok (.ireturn, 1) := by decide +kernel
theorem dX6_init_0 : decode cX6_init 0 = .ok (.aload_n 0, 1) := by decide +kernel
theorem dX6_init_1 : decode cX6_init 1 = .ok (.invokespecial 3, 3) := by decide +kernel
theorem dX6_init_4 : decode cX6_init 4 = .ok (.aload_n 0, 1) := by decide +kernel
theorem dX6_init_5 : decode cX6_init 5 = .ok (.bipush 8, 2) := by decide +kernel
theorem dX6_init_7 : decode cX6_init 7 = .ok (.newarray .int, 2) := by decide +kernel
theorem dX6_init_9 : decode cX6_init 9 = .ok (.putfield 9, 3) := by decide +kernel
theorem dX6_init_12 : decode cX6_init 12 = .ok (.aload_n 0, 1) := by decide +kernel
theorem dX6_init_13 : decode cX6_init 13 = .ok (.bipush 8, 2) := by decide +kernel
theorem dX6_init_15 : decode cX6_init 15 = .ok (.newarray .int, 2) := by decide +kernel
theorem dX6_init_17 : decode cX6_init 17 = .ok (.putfield 13, 3) := by decide +kernel
theorem dX6_init_20 : decode cX6_init 20 = .ok (.aload_n 0, 1) := by decide +kernel
theorem dX6_init_21 : decode cX6_init 21 = .ok (.bipush 8, 2) := by decide +kernel
theorem dX6_init_23 : decode cX6_init 23 = .ok (.newarray .int, 2) := by decide +kernel
theorem dX6_init_25 : decode cX6_init 25 = .ok (.putfield 16, 3) := by decide +kernel
theorem dX6_init_28 : decode cX6_init 28 = .ok (.aload_n 0, 1) := by decide +kernel
theorem dX6_init_29 : decode cX6_init 29 = .ok (.bipush 6, 2) := by decide +kernel
theorem dX6_init_31 : decode cX6_init 31 = .ok (.newarray .int, 2) := by decide +kernel
theorem dX6_init_33 : decode cX6_init 33 = .ok (.putfield 19, 3) := by decide +kernel
theorem dX6_init_36 : decode cX6_init 36 = .ok (.aload_n 0, 1) := by decide +kernel
theorem dX6_init_37 : decode cX6_init 37 = .ok (.bipush 6, 2) := by decide +kernel
theorem dX6_init_39 : decode cX6_init 39 = .ok (.newarray .int, 2) := by decide +kernel
theorem dX6_init_41 : decode cX6_init 41 = .ok (.putfield 22, 3) := by decide +kernel
theorem dX6_init_44 : decode cX6_init 44 = .ok (.aload_n 0, 1) := by decide +kernel
theorem dX6_init_45 : decode cX6_init 45 = .ok (.bipush 6, 2) := by decide +kernel
theorem dX6_init_47 : decode cX6_init 47 = .ok (.newarray .int, 2) := by decide +kernel
theorem dX6_init_49 : decode cX6_init 49 = .ok (.putfield 25, 3) := by decide +kernel
theorem dX6_init_52 : decode cX6_init 52 = .ok (.aload_n 0, 1) := by decide +kernel
theorem dX6_init_53 : decode cX6_init 53 = .ok (.bipush 6, 2) := by decide +kernel
theorem dX6_init_55 : decode cX6_init 55 = .ok (.newarray .int, 2) := by decide +kernel
theorem dX6_init_57 : decode cX6_init 57 = .ok (.putfield 28, 3) := by decide +kernel
theorem dX6_init_60 : decode cX6_init 60 = .ok (.aload_n 0, 1) := by decide +kernel
theorem dX6_init_61 : decode cX6_init 61 = .ok (.bipush 6, 2) := by decide +kernel
theorem dX6_init_63 : decode cX6_init 63 = .ok (.newarray .int, 2) := by decide +kernel
theorem dX6_init_65 : decode cX6_init 65 = .ok (.putfield 31, 3) := by decide +kernel
theorem dX6_init_68 : decode cX6_init 68 = .ok (.aload_n 0, 1) := by decide +kernel
theorem dX6_init_69 : decode cX6_init 69 = .ok (.bipush 6, 2) := by decide +kernel
theorem dX6_init_71 : decode cX6_init 71 = .ok (.newarray .int, 2) := by decide +kernel
theorem dX6_init_73 : decode cX6_init 73 = .ok (.putfield 34, 3) := by decide +kernel
theorem dX6_init_76 : decode cX6_init 76 = .ok (.aload_n 0, 1) := by decide +kernel
theorem dX6_init_77 : decode cX6_init 77 = .ok (.bipush 6, 2) := by decide +kernel
theorem dX6_init_79 : decode cX6_init 79 = .ok (.newarray .int, 2) := by decide +kernel
theorem dX6_init_81 : decode cX6_init 81 = .ok (.putfield 37, 3) := by decide +kernel
theorem dX6_init_84 : decode cX6_init 84 = .ok (.aload_n 0, 1) := by decide +kernel
theorem dX6_init_85 : decode cX6_init 85 = .ok (.sipush 200, 3) := by decide +kernel
theorem dX6_init_88 : decode cX6_init 88 = .ok (.newarray .int, 2) := by decide +kernel
theorem dX6_init_90 : decode cX6_init 90 = .ok (.putfield 40, 3) := by decide +kernel
theorem dX6_init_93 : decode cX6_init 93 = .ok (.aload_n 0, 1) := by decide +kernel
theorem dX6_init_94 : decode cX6_init 94 = .ok (.iconst 5, 1) := by decide +kernel
theorem dX6_init_95 : decode cX6_init 95 = .ok (.newarray .int, 2) := by decide +kernel
theorem dX6_init_97 : decode cX6_init 97 = .ok (.putfield 43, 3) := by decide +kernel
theorem dX6_init_100 : decode cX6_init 100 = .ok (.aload_n 0, 1) := by decide +kernel
theorem dX6_init_101 : decode cX6_init 101 = .ok (.bipush 15, 2) := by decide +kernel
theorem dX6_init_103 : decode cX6_init 103 = .ok (.newarray .int, 2) := by decide +kernel
theorem dX6_init_105 : decode cX6_init 105 = .ok (.putfield 46, 3) := by decide +kernel
theorem dX6_init_108 : decode cX6_init 108 = .ok (.aload_n 0, 1) := by decide +kernel
theorem dX6_init_109 : decode cX6_init 109 = .ok (.bipush 21, 2) := by decide +kernel
theorem dX6_init_111 : decode cX6_init 111 = .ok (.newarray .int, 2) := by decide +kernel
theorem dX6_init_113 : decode cX6_init 113 = .ok (.putfield 49, 3) := by decide +kernel
theorem dX6_init_116 : decode cX6_init 116 = .ok (.aload_n 0, 1) := by decide +kernel
theorem dX6_init_117 : decode cX6_init 117 = .ok (.sipush 232, 3) := by decide +kernel
theorem dX6_init_120 : decode cX6_init 120 = .ok (.newarray .int, 2) := by decide +kernel
theorem dX6_init_122 : decode cX6_init 122 = .ok (.putfield 52, 3) := by decide +kernel
theorem dX6_init_125 : decode cX6_init 125 = .ok (.aload_n 0, 1) := by decide +kernel
theorem dX6_init_126 : decode cX6_init 126 = .ok (.bipush 29, 2) := by decide +kernel
theorem dX6_init_128 : decode cX6_init 128 = .ok (.newarray .int, 2) := by decide +kernel
theorem dX6_init_130 : decode cX6_init 130 = .ok (.putfield 55, 3) := by decide +kernel
theorem dX6_init_133 : decode cX6_init 133 = .ok (.aload_n 0, 1) := by decide +kernel
theorem dX6_init_134 : decode cX6_init 134 = .ok (.bipush 58, 2) := by decide +kernel
theorem dX6_init_136 : decode cX6_init 136 = .ok (.newarray .int, 2) := by decide +kernel
theorem dX6_init_138 : decode cX6_init 138 = .ok (.putfield 58, 3) := by decide +kernel
theorem dX6_init_141 : decode cX6_init 141 = .ok (.aload_n 0, 1) := by decide +kernel
theorem dX6_init_142 : decode cX6_init 142 = .ok (.iconst 4, 1) := by decide +kernel
theorem dX6_init_143 : decode cX6_init 143 = .ok (.putfield 61, 3) := by decide +kernel
theorem dX6_init_146 : decode cX6_init 146 = .ok (.aload_n 0, 1) := by decide +kernel
theorem dX6_init_147 : decode cX6_init 147 = .ok (.iconst 4, 1) := by decide +kernel
theorem dX6_init_148 : decode cX6_init 148 = .ok (.putfield 65, 3) := by decide +kernel
theorem dX6_init_151 : decode cX6_init 151 = .ok (.aload_n 0, 1) := by decide +kernel
theorem dX6_init_152 : decode cX6_init 152 = .ok (.iconst 2, 1) := by decide +kernel
theorem dX6_init_153 : decode cX6_init 153 = .ok (.putfield 68, 3) := by decide +kernel
theorem dX6_init_156 : decode cX6_init 156 = .ok (.aload_n 0, 1) := by decide +kernel
theorem dX6_init_157 : decode cX6_init 157 = .ok (.iconst 2, 1) := by decide +kernel
theorem dX6_init_158 : decode cX6_init 158 = .ok (.putfield 71, 3) := by decide +kernel
theorem dX6_init_161 : decode cX6_init 161 = .ok (.aload_n 0, 1) := by decide +kernel
theorem dX6_init_162 : decode cX6_init 162 = .ok (.iconst 1, 1) := by decide +kernel
theorem dX6_init_163 : decode cX6_init 163 = .ok (.putfield 74, 3) := by decide +kernel
theorem dX6_init_166 : decode cX6_init 166 = .ok (.aload_n 0, 1) := by decide +kernel
theorem dX6_init_167 : decode cX6_init 167 = .ok (.iconst 1, 1) := by decide +kernel
theorem dX6_init_168 : decode cX6_init 168 = .ok (.iconst 4, 1) := by decide +kernel
theorem dX6_init_169 : decode cX6_init 169 = .ok (.iconst 0, 1) := by decide +kernel
theorem dX6_init_170 : decode cX6_init 170 = .ok (.invokevirtual 77, 3) := by decide +kernel
theorem dX6_init_173 : decode cX6_init 173 = .ok (.aload_n 0, 1) := by decide +kernel
theorem dX6_init_174 : decode cX6_init 174 = .ok (.bipush 7, 2) := by decide +kernel
theorem dX6_init_176 : decode cX6_init 176 = .ok (.iconst 2, 1) := by decide +kernel
theorem dX6_init_177 : decode cX6_init 177 = .ok (.iconst 1, 1) := by decide +kernel
theorem dX6_init_178 : decode cX6_init 178 = .ok (.invokevirtual 77, 3) := by decide +kernel
theorem dX6_init_181 : decode cX6_init 181 = .ok (.aload_n 0, 1) := by decide +kernel
theorem dX6_init_182 : decode cX6_init 182 = .ok (.iconst 4, 1) := by decide +kernel
theorem dX6_init_183 : decode cX6_init 183 = .ok (.bipush 7, 2) := by decide +kernel
theorem dX6_init_185 : decode cX6_init 185 = .ok (.iconst 2, 1) := by decide +kernel
theorem dX6_init_186 : decode cX6_init 186 = .ok (.invokevirtual 77, 3) := by decide +kernel
theorem dX6_init_189 : decode cX6_init 189 = .ok (.aload_n 0, 1) := by decide +kernel
theorem dX6_init_190 : decode cX6_init 190 = .ok (.bipush 8, 2) := by decide +kernel
theorem dX6_init_192 : decode cX6_init 192 = .ok (.bipush 8, 2) := by decide +kernel
theorem dX6_init_194 : decode cX6_init 194 = .ok (.iconst 0, 1) := by decide +kernel
theorem dX6_init_195 : decode cX6_init 195 = .ok (.invokevirtual 77, 3) := by decide +kernel
theorem dX6_init_198 : decode cX6_init 198 = .ok (.aload_n 0, 1) := by decide +kernel
theorem dX6_init_199 : decode cX6_init 199 = .ok (.iconst 0, 1) := by decide +kernel
theorem dX6_init_200 : decode cX6_init 200 = .ok (.iconst 0, 1) := by decide +kernel
theorem dX6_init_201 : decode cX6_init 201 = .ok (.bipush 6, 2) := by decide +kernel
theorem dX6_init_203 : decode cX6_init 203 = .ok (.invokevirtual 81, 3) := by decide +kernel
theorem dX6_init_206 : decode cX6_init 206 = .ok (.aload_n 0, 1) := by decide +kernel
theorem dX6_init_207 : decode cX6_init 207 = .ok (.iconst 1, 1) := by decide +kernel
theorem dX6_init_208 : decode cX6_init 208 = .ok (.iconst 1, 1) := by decide +kernel
theorem dX6_init_209 : decode cX6_init 209 = .ok (.iconst 3, 1) := by decide +kernel
theorem dX6_init_210 : decode cX6_init 210 = .ok (.invokevirtual 81, 3) := by decide +kernel
theorem dX6_init_213 : decode cX6_init 213 = .ok (.aload_n 0, 1) := by decide +kernel
theorem dX6_init_214 : decode cX6_init 214 = .ok (.iconst 2, 1) := by decide +kernel
theorem dX6_init_215 : decode cX6_init 215 = .ok (.iconst 2, 1) := by decide +kernel
theorem dX6_init_216 : decode cX6_init 216 = .ok (.iconst 1, 1) := by decide +kernel
theorem dX6_init_217 : decode cX6_init 217 = .ok (.invokevirtual 81, 3) := by decide +kernel
theorem dX6_init_220 : decode cX6_init 220 = .ok (.aload_n 0, 1) := by decide +kernel
theorem dX6_init_221 : decode cX6_init 221 = .ok (.iconst 3, 1) := by decide +kernel
theorem dX6_init_222 : decode cX6_init 222 = .ok (.iconst 0, 1) := by decide +kernel
theorem dX6_init_223 : decode cX6_init 223 = .ok (.iconst 5, 1) := by decide +kernel
theorem dX6_init_224 : decode cX6_init 224 = .ok (.invokevirtual 81, 3) := by decide +kernel
theorem dX6_init_227 : decode cX6_init 227 = .ok (.aload_n 0, 1) := by decide +kernel
theorem dX6_init_228 : decode cX6_init 228 = .ok (.iconst 0, 1) := by decide +kernel
theorem dX6_init_229 : decode cX6_init 229 = .ok (.iconst 1, 1) := by decide +kernel
theorem dX6_init_230 : decode cX6_init 230 = .ok (.bipush 9, 2) := by decide +kernel
theorem dX6_init_232 : decode cX6_init 232 = .ok (.invokevirtual 81, 3) := by decide +kernel
theorem dX6_init_235 : decode cX6_init 235 = .ok (.return_, 1) := by decide +kernel
theorem dX6_firstPost_0 : decode cX6_firstPost 0 = .ok (.aload_n 0, 1) := by decide +kernel
theorem dX6_firstPost_1 : decode cX6_firstPost 1 = .ok (.aload_n 0, 1) := by decide +kernel
theorem dX6_firstPost_2 : decode cX6_firstPost 2 = .ok (.getfield 84, 3) := by decide +kernel
theorem dX6_firstPost_5 : decode cX6_firstPost 5 = .ok (.iload_n 1, 1) := by decide +kernel
theorem dX6_firstPost_6 : decode cX6_firstPost 6 = .ok (.iload_n 2, 1) := by decide +kernel
theorem dX6_firstPost_7 : decode cX6_firstPost 7 = .ok (.iload_n 3, 1) := by decide +kernel
theorem dX6_firstPost_8 : decode cX6_firstPost 8 = .ok (.invokevirtual 87, 3) := by decide +kernel
theorem dX6_firstPost_11 : decode cX6_firstPost 11 = .ok (.aload_n 0, 1) := by decide +kernel
theorem dX6_firstPost_12 : decode cX6_firstPost 12 = .ok (.dup, 1) := by decide +kernel
theorem dX6_firstPost_13 : decode cX6_firstPost 13 = .ok (.getfield 84, 3) := by decide +kernel
theorem dX6_firstPost_16 : decode cX6_firstPost 16 = .ok (.iconst 1, 1) := by decide +kernel
theorem dX6_firstPost_17 : decode cX6_firstPost 17 = .ok (.iadd, 1) := by decide +kernel
theorem dX6_firstPost_18 : decode cX6_firstPost 18 = .ok (.putfield 84, 3) := by decide +kernel
theorem dX6_firstPost_21 : decode cX6_firstPost 21 = .ok (.return_, 1) := by decide +kernel
theorem dX6_setsPost_0 : decode cX6_setsPost 0 = .ok (.aload_n 0, 1) := by decide +kernel
theorem dX6_setsPost_1 : decode cX6_setsPost 1 = .ok (.getfield 19, 3) := by decide +kernel
theorem dX6_setsPost_4 : decode cX6_setsPost 4 = .ok (.iload_n 1, 1) := by decide +kernel
theorem dX6_setsPost_5 : decode cX6_setsPost 5 = .ok (.iload_n 2, 1) := by decide +kernel
theorem dX6_setsPost_6 : decode cX6_setsPost 6 = .ok (.iastore, 1) := by decide +kernel
theorem dX6_setsPost_7 : decode cX6_setsPost 7 = .ok (.aload_n 0, 1) := by decide +kernel
theorem dX6_setsPost_8 : decode cX6_setsPost 8 = .ok (.getfield 22, 3) := by decide +kernel
theorem dX6_setsPost_11 : decode cX6_setsPost 11 = .ok (.iload_n 1, 1) := by decide +kernel
theorem dX6_setsPost_12 : decode cX6_setsPost 12 = .ok (.iload_n 3, 1) := by decide +kernel
theorem dX6_setsPost_13 : decode cX6_setsPost 13 = .ok (.iastore, 1) := by decide +kernel
theorem dX6_setsPost_14 : decode cX6_setsPost 14 = .ok (.aload_n 0, 1) := by decide +kernel
theorem dX6_setsPost_15 : decode cX6_setsPost 15 = .ok (.getfield 25, 3) := by decide +kernel
theorem dX6_setsPost_18 : decode cX6_setsPost 18 = .ok (.iload_n 1, 1) := by decide +kernel
theorem dX6_setsPost_19 : decode cX6_setsPost 19 = .ok (.iload 4, 2) := by decide +kernel
theorem dX6_setsPost_21 : decode cX6_setsPost 21 = .ok (.iastore, 1) := by decide +kernel
theorem dX6_setsPost_22 : decode cX6_setsPost 22 = .ok (.aload_n 0, 1) := by decide +kernel
theorem dX6_setsPost_23 : decode cX6_setsPost 23 = .ok (.getfield 28, 3) := by decide +kernel
theorem dX6_setsPost_26 : decode cX6_setsPost 26 = .ok (.iload_n 1, 1) := by decide +kernel
theorem dX6_setsPost_27 : decode cX6_setsPost 27 = .ok (.iconst 0, 1) := by decide +kernel
theorem dX6_setsPost_28 : decode cX6_setsPost 28 = .ok (.iastore, 1) := by decide +kernel
theorem dX6_setsPost_29 : decode cX6_setsPost 29 = .ok (.return_, 1) := by decide +kernel
theorem dX6_firstOne_0 : decode cX6_firstOne 0 = .ok (.aload_n 0, 1) := by decide +kernel
theorem dX6_firstOne_1 : decode cX6_firstOne 1 = .ok (.getfield 9, 3) := by decide +kernel
theorem dX6_firstOne_4 : decode cX6_firstOne 4 = .ok (.aload_n 0, 1) := by decide +kernel
theorem dX6_firstOne_5 : decode cX6_firstOne 5 = .ok (.getfield 91, 3) := by decide +kernel
theorem dX6_firstOne_8 : decode cX6_firstOne 8 = .ok (.iload_n 1, 1) := by decide +kernel
theorem dX6_firstOne_9 : decode cX6_firstOne 9 = .ok (.iastore, 1) := by decide +kernel
theorem dX6_firstOne_10 : decode cX6_firstOne 10 = .ok (.aload_n 0, 1) := by decide +kernel
theorem dX6_firstOne_11 : decode cX6_firstOne 11 = .ok (.getfield 13, 3) := by decide +kernel
theorem dX6_firstOne_14 : decode cX6_firstOne 14 = .ok (.aload_n 0, 1) := by decide +kernel
theorem dX6_firstOne_15 : decode cX6_firstOne 15 = .ok (.getfield 91, 3) := by decide +kernel
theorem dX6_firstOne_18 : decode cX6_firstOne 18 = .ok (.iload_n 2, 1) := by decide +kernel
theorem dX6_firstOne_19 : decode cX6_firstOne 19 = .ok (.iastore, 1) := by decide +kernel
theorem dX6_firstOne_20 : decode cX6_firstOne 20 = .ok (.aload_n 0, 1) := by decide +kernel
theorem dX6_firstOne_21 : decode cX6_firstOne 21 = .ok (.getfield 16, 3) := by decide +kernel
theorem dX6_firstOne_24 : decode cX6_firstOne 24 = .ok (.aload_n 0, 1) := by decide +kernel
theorem dX6_firstOne_25 : decode cX6_firstOne 25 = .ok (.getfield 91, 3) := by decide +kernel
theorem dX6_firstOne_28 : decode cX6_firstOne 28 = .ok (.iload_n 3, 1) := by decide +kernel
theorem dX6_firstOne_29 : decode cX6_firstOne 29 = .ok (.iastore, 1) := by decide +kernel
theorem dX6_firstOne_30 : decode cX6_firstOne 30 = .ok (.aload_n 0, 1) := by decide +kernel
theorem dX6_firstOne_31 : decode cX6_firstOne 31 = .ok (.dup, 1) := by decide +kernel
theorem dX6_firstOne_32 : decode cX6_firstOne 32 = .ok (.getfield 91, 3) := by decide +kernel
theorem dX6_firstOne_35 : decode cX6_firstOne 35 = .ok (.iconst 1, 1) := by decide +kernel
theorem dX6_firstOne_36 : decode cX6_firstOne 36 = .ok (.iadd, 1) := by decide +kernel
theorem dX6_firstOne_37 : decode cX6_firstOne 37 = .ok (.putfield 91, 3) := by decide +kernel
theorem dX6_firstOne_40 : decode cX6_firstOne 40 = .ok (.return_, 1) := by decide +kernel
theorem dX6_isPost_0 : decode cX6_isPost 0 = .ok (.iload_n 1, 1) := by decide +kernel
theorem dX6_isPost_1 : decode cX6_isPost 1 = .ok (.iconst 0, 1) := by decide +kernel
theorem dX6_isPost_2 : decode cX6_isPost 2 = .ok (.aload_n 0, 1) := by decide +kernel
theorem dX6_isPost_3 : decode cX6_isPost 3 = .ok (.getfield 84, 3) := by decide +kernel
theorem dX6_isPost_6 : decode cX6_isPost 6 = .ok (.iconst 1, 1) := by decide +kernel
theorem dX6_isPost_7 : decode cX6_isPost 7 = .ok (.isub, 1) := by decide +kernel
theorem dX6_isPost_8 : decode cX6_isPost 8 = .ok (.invokestatic 94, 3) := by decide +kernel
theorem dX6_isPost_11 : decode cX6_isPost 11 = .ok (.ireturn, 1) := by decide +kernel
theorem dX6_isOne_0 : decode cX6_isOne 0 = .ok (.iload_n 1, 1) := by decide +kernel
theorem dX6_isOne_1 : decode cX6_isOne 1 = .ok (.iconst 0, 1) := by decide +kernel
theorem dX6_isOne_2 : decode cX6_isOne 2 = .ok (.aload_n 0, 1) := by decide +kernel
theorem dX6_isOne_3 : decode cX6_isOne 3 = .ok (.getfield 91, 3) := by decide +kernel
theorem dX6_isOne_6 : decode cX6_isOne 6 = .ok (.iconst 1, 1) := by decide +kernel
theorem dX6_isOne_7 : decode cX6_isOne 7 = .ok (.isub, 1) := by decide +kernel
theorem dX6_isOne_8 : decode cX6_isOne 8 = .ok (.invokestatic 94, 3) := by decide +kernel
theorem dX6_isOne_11 : decode cX6_isOne 11 = .ok (.ireturn, 1) := by decide +kernel
theorem dX6_isCell_0 : decode cX6_isCell 0 = .ok (.iload_n 0, 1) := by decide +kernel
theorem dX6_isCell_1 : decode cX6_isCell 1 = .ok (.iconst 0, 1) := by decide +kernel
theorem dX6_isCell_2 : decode cX6_isCell 2 = .ok (.bipush 8, 2) := by decide +kernel
theorem dX6_isCell_4 : decode cX6_isCell 4 = .ok (.invokestatic 94, 3) := by decide +kernel
theorem dX6_isCell_7 : decode cX6_isCell 7 = .ok (.ifCond .eq 17, 3) := by decide +kernel
theorem dX6_isCell_10 : decode cX6_isCell 10 = .ok (.iload_n 1, 1) := by decide +kernel
theorem dX6_isCell_11 : decode cX6_isCell 11 = .ok (.iconst 0, 1) := by decide +kernel
theorem dX6_isCell_12 : decode cX6_isCell 12 = .ok (.bipush 8, 2) := by decide +kernel
theorem dX6_isCell_14 : decode cX6_isCell 14 = .ok (.invokestatic 94, 3) := by decide +kernel
theorem dX6_isCell_17 : decode cX6_isCell 17 = .ok (.ifCond .eq 7, 3) := by decide +kernel
theorem dX6_isCell_20 : decode cX6_isCell 20 = .ok (.iconst 1, 1) := by decide +kernel
theorem dX6_isCell_21 : decode cX6_isCell 21 = .ok (.goto 4, 3) := by decide +kernel
theorem dX6_isCell_24 : decode cX6_isCell 24 = .ok (.iconst 0, 1) := by decide +kernel
theorem dX6_isCell_25 : decode cX6_isCell 25 = .ok (.ireturn, 1) := by decide +kernel
theorem dX6_write_0 : decode cX6_write 0 = .ok (.iload_n 1, 1) := by decide +kernel
theorem dX6_write_1 : decode cX6_write 1 = .ok (.bipush 32, 2) := by decide +kernel
theorem dX6_write_3 : decode cX6_write 3 = .ok (.bipush 126, 2) := by decide +kernel
theorem dX6_write_5 : decode cX6_write 5 = .ok (.invokestatic 94, 3) := by decide +kernel
theorem dX6_write_8 : decode cX6_write 8 = .ok (.ifCond .ne 5, 3) := by decide +kernel
theorem dX6_write_11 : decode cX6_write 11 = .ok (.iconst (-1), 1) := by decide +kernel
theorem dX6_write_12 : decode cX6_write 12 = .ok (.ireturn, 1) := by decide +kernel
theorem dX6_write_13 : decode cX6_write 13 = .ok (.aload_n 0, 1) := by decide +kernel
theorem dX6_write_14 : decode cX6_write 14 = .ok (.getfield 98, 3) := by decide +kernel
theorem dX6_write_17 : decode cX6_write 17 = .ok (.sipush 200, 3) := by decide +kernel
theorem dX6_write_20 : decode cX6_write 20 = .ok (.if_icmp .ne 6, 3) := by decide +kernel
theorem dX6_write_23 : decode cX6_write 23 = .ok (.bipush (-3), 2) := by decide +kernel
theorem dX6_write_25 : decode cX6_write 25 = .ok (.ireturn, 1) := by decide +kernel
theorem dX6_write_26 : decode cX6_write 26 = .ok (.aload_n 0, 1) := by decide +kernel
theorem dX6_write_27 : decode cX6_write 27 = .ok (.getfield 40, 3) := by decide +kernel
theorem dX6_write_30 : decode cX6_write 30 = .ok (.aload_n 0, 1) := by decide +kernel
theorem dX6_write_31 : decode cX6_write 31 = .ok (.getfield 98, 3) := by decide +kernel
theorem dX6_write_34 : decode cX6_write 34 = .ok (.iload_n 1, 1) := by decide +kernel
theorem dX6_write_35 : decode cX6_write 35 = .ok (.iastore, 1) := by decide +kernel
theorem dX6_write_36 : decode cX6_write 36 = .ok (.aload_n 0, 1) := by decide +kernel
theorem dX6_write_37 : decode cX6_write 37 = .ok (.dup, 1) := by decide +kernel
theorem dX6_write_38 : decode cX6_write 38 = .ok (.getfield 98, 3) := by decide +kernel
theorem dX6_write_41 : decode cX6_write 41 = .ok (.iconst 1, 1) := by decide +kernel
theorem dX6_write_42 : decode cX6_write 42 = .ok (.iadd, 1) := by decide +kernel
theorem dX6_write_43 : decode cX6_write 43 = .ok (.putfield 98, 3) := by decide +kernel
theorem dX6_write_46 : decode cX6_write 46 = .ok (.aload_n 0, 1) := by decide +kernel
theorem dX6_write_47 : decode cX6_write 47 = .ok (.getfield 98, 3) := by decide +kernel
theorem dX6_write_50 : decode cX6_write 50 = .ok (.ireturn, 1) := by decide +kernel
theorem dX6_wipe_0 : decode cX6_wipe 0 = .ok (.aload_n 0, 1) := by decide +kernel
theorem dX6_wipe_1 : decode cX6_wipe 1 = .ok (.getfield 98, 3) := by decide +kernel
theorem dX6_wipe_4 : decode cX6_wipe 4 = .ok (.istore_n 1, 1) := by decide +kernel
theorem dX6_wipe_5 : decode cX6_wipe 5 = .ok (.aload_n 0, 1) := by decide +kernel
theorem dX6_wipe_6 : decode cX6_wipe 6 = .ok (.iconst 0, 1) := by decide +kernel
theorem dX6_wipe_7 : decode cX6_wipe 7 = .ok (.putfield 98, 3) := by decide +kernel
theorem dX6_wipe_10 : decode cX6_wipe 10 = .ok (.iload_n 1, 1) := by decide +kernel
theorem dX6_wipe_11 : decode cX6_wipe 11 = .ok (.ireturn, 1) := by decide +kernel
theorem dX6_here_0 : decode cX6_here 0 = .ok (.aload_n 0, 1) := by decide +kernel
theorem dX6_here_1 : decode cX6_here 1 = .ok (.getfield 101, 3) := by decide +kernel
theorem dX6_here_4 : decode cX6_here 4 = .ok (.aload_n 0, 1) := by decide +kernel
theorem dX6_here_5 : decode cX6_here 5 = .ok (.getfield 98, 3) := by decide +kernel
theorem dX6_here_8 : decode cX6_here 8 = .ok (.if_icmp .ge 15, 3) := by decide +kernel
theorem dX6_here_11 : decode cX6_here 11 = .ok (.aload_n 0, 1) := by decide +kernel
theorem dX6_here_12 : decode cX6_here 12 = .ok (.getfield 40, 3) := by decide +kernel
theorem dX6_here_15 : decode cX6_here 15 = .ok (.aload_n 0, 1) := by decide +kernel
theorem dX6_here_16 : decode cX6_here 16 = .ok (.getfield 101, 3) := by decide +kernel
theorem dX6_here_19 : decode cX6_here 19 = .ok (.iaload, 1) := by decide +kernel
theorem dX6_here_20 : decode cX6_here 20 = .ok (.goto 4, 3) := by decide +kernel
theorem dX6_here_23 : decode cX6_here 23 = .ok (.iconst 0, 1) := by decide +kernel
theorem dX6_here_24 : decode cX6_here 24 = .ok (.ireturn, 1) := by decide +kernel
theorem dX6_isFigure_0 : decode cX6_isFigure 0 = .ok (.aload_n 0, 1) := by decide +kernel
theorem dX6_isFigure_1 : decode cX6_isFigure 1 = .ok (.invokevirtual 104, 3) := by decide +kernel
theorem dX6_isFigure_4 : decode cX6_isFigure 4 = .ok (.bipush 48, 2) := by decide +kernel
theorem dX6_isFigure_6 : decode cX6_isFigure 6 = .ok (.bipush 57, 2) := by decide +kernel
theorem dX6_isFigure_8 : decode cX6_isFigure 8 = .ok (.invokestatic 94, 3) := by decide +kernel
theorem dX6_isFigure_11 : decode cX6_isFigure 11 = .ok (.ireturn, 1) := by decide +kernel
theorem dX6_number_0 : decode cX6_number 0 = .ok (.aload_n 0, 1) := by decide +kernel
theorem dX6_number_1 : decode cX6_number 1 = .ok (.invokevirtual 108, 3) := by decide +kernel
theorem dX6_number_4 : decode cX6_number 4 = .ok (.ifCond .ne 5, 3) := by decide +kernel
theorem dX6_number_7 : decode cX6_number 7 = .ok (.iconst 0, 1) := by decide +kernel
theorem dX6_number_8 : decode cX6_number 8 = .ok (.ireturn, 1) := by decide +kernel
theorem dX6_number_9 : decode cX6_number 9 = .ok (.aload_n 0, 1) := by decide +kernel
theorem dX6_number_10 : decode cX6_number 10 = .ok (.invokevirtual 104, 3) := by decide +kernel
theorem dX6_number_13 : decode cX6_number 13 = .ok (.bipush 48, 2) := by decide +kernel
theorem dX6_number_15 : decode cX6_number 15 = .ok (.isub, 1) := by decide +kernel
theorem dX6_number_16 : decode cX6_number 16 = .ok (.istore 4, 2) := by decide +kernel
theorem dX6_number_18 : decode cX6_number 18 = .ok (.aload_n 0, 1) := by decide +kernel
theorem dX6_number_19 : decode cX6_number 19 = .ok (.dup, 1) := by decide +kernel
theorem dX6_number_20 : decode cX6_number 20 = .ok (.getfield 101, 3) := by decide +kernel
theorem dX6_number_23 : decode cX6_number 23 = .ok (.iconst 1, 1) := by decide +kernel
theorem dX6_number_24 : decode cX6_number 24 = .ok (.iadd, 1) := by decide +kernel
theorem dX6_number_25 : decode cX6_number 25 = .ok (.putfield 101, 3) := by decide +kernel
theorem dX6_number_28 : decode cX6_number 28 = .ok (.aload_n 0, 1) := by decide +kernel
theorem dX6_number_29 : decode cX6_number 29 = .ok (.invokevirtual 108, 3) := by decide +kernel
theorem dX6_number_32 : decode cX6_number 32 = .ok (.ifCond .eq 28, 3) := by decide +kernel
theorem dX6_number_35 : decode cX6_number 35 = .ok (.bipush 10, 2) := by decide +kernel
theorem dX6_number_37 : decode cX6_number 37 = .ok (.iload 4, 2) := by decide +kernel
theorem dX6_number_39 : decode cX6_number 39 = .ok (.imul, 1) := by decide +kernel
theorem dX6_number_40 : decode cX6_number 40 = .ok (.aload_n 0, 1) := by decide +kernel
theorem dX6_number_41 : decode cX6_number 41 = .ok (.invokevirtual 104, 3) := by decide +kernel
theorem dX6_number_44 : decode cX6_number 44 = .ok (.iadd, 1) := by decide +kernel
theorem dX6_number_45 : decode cX6_number 45 = .ok (.bipush 48, 2) := by decide +kernel
theorem dX6_number_47 : decode cX6_number 47 = .ok (.isub, 1) := by decide +kernel
theorem dX6_number_48 : decode cX6_number 48 = .ok (.istore 4, 2) := by decide +kernel
theorem dX6_number_50 : decode cX6_number 50 = .ok (.aload_n 0, 1) := by decide +kernel
theorem dX6_number_51 : decode cX6_number 51 = .ok (.dup, 1) := by decide +kernel
theorem dX6_number_52 : decode cX6_number 52 = .ok (.getfield 101, 3) := by decide +kernel
theorem dX6_number_55 : decode cX6_number 55 = .ok (.iconst 1, 1) := by decide +kernel
theorem dX6_number_56 : decode cX6_number 56 = .ok (.iadd, 1) := by decide +kernel
theorem dX6_number_57 : decode cX6_number 57 = .ok (.putfield 101, 3) := by decide +kernel
theorem dX6_number_60 : decode cX6_number 60 = .ok (.aload_n 0, 1) := by decide +kernel
theorem dX6_number_61 : decode cX6_number 61 = .ok (.iload 4, 2) := by decide +kernel
theorem dX6_number_63 : decode cX6_number 63 = .ok (.putfield 112, 3) := by decide +kernel
theorem dX6_number_66 : decode cX6_number 66 = .ok (.aload_n 0, 1) := by decide +kernel
theorem dX6_number_67 : decode cX6_number 67 = .ok (.invokevirtual 104, 3) := by decide +kernel
theorem dX6_number_70 : decode cX6_number 70 = .ok (.iload_n 3, 1) := by decide +kernel
theorem dX6_number_71 : decode cX6_number 71 = .ok (.if_icmp .ne 13, 3) := by decide +kernel
theorem dX6_number_74 : decode cX6_number 74 = .ok (.iload 4, 2) := by decide +kernel
theorem dX6_number_76 : decode cX6_number 76 = .ok (.iload_n 1, 1) := by decide +kernel
theorem dX6_number_77 : decode cX6_number 77 = .ok (.iload_n 2, 1) := by decide +kernel
theorem dX6_number_78 : decode cX6_number 78 = .ok (.invokestatic 94, 3) := by decide +kernel
theorem dX6_number_81 : decode cX6_number 81 = .ok (.ifCond .ne 5, 3) := by decide +kernel
theorem dX6_number_84 : decode cX6_number 84 = .ok (.iconst 0, 1) := by decide +kernel
theorem dX6_number_85 : decode cX6_number 85 = .ok (.ireturn, 1) := by decide +kernel
theorem dX6_number_86 : decode cX6_number 86 = .ok (.aload_n 0, 1) := by decide +kernel
theorem dX6_number_87 : decode cX6_number 87 = .ok (.dup, 1) := by decide +kernel
theorem dX6_number_88 : decode cX6_number 88 = .ok (.getfield 101, 3) := by decide +kernel
theorem dX6_number_91 : decode cX6_number 91 = .ok (.iconst 1, 1) := by decide +kernel
theorem dX6_number_92 : decode cX6_number 92 = .ok (.iadd, 1) := by decide +kernel
theorem dX6_number_93 : decode cX6_number 93 = .ok (.putfield 101, 3) := by decide +kernel
theorem dX6_number_96 : decode cX6_number 96 = .ok (.iconst 1, 1) := by decide +kernel
theorem dX6_number_97 : decode cX6_number 97 = .ok (.ireturn, 1) := by decide +kernel
theorem dX6_three_0 : decode cX6_three 0 = .ok (.aload_n 0, 1) := by decide +kernel
theorem dX6_three_1 : decode cX6_three 1 = .ok (.iconst 0, 1) := by decide +kernel
theorem dX6_three_2 : decode cX6_three 2 = .ok (.iload_n 3, 1) := by decide +kernel
theorem dX6_three_3 : decode cX6_three 3 = .ok (.bipush 44, 2) := by decide +kernel
theorem dX6_three_5 : decode cX6_three 5 = .ok (.invokevirtual 115, 3) := by decide +kernel
theorem dX6_three_8 : decode cX6_three 8 = .ok (.ifCond .ne 5, 3) := by decide +kernel
theorem dX6_three_11 : decode cX6_three 11 = .ok (.iconst 0, 1) := by decide +kernel
theorem dX6_three_12 : decode cX6_three 12 = .ok (.ireturn, 1) := by decide +kernel
theorem dX6_three_13 : decode cX6_three 13 = .ok (.aload_n 1, 1) := by decide +kernel
theorem dX6_three_14 : decode cX6_three 14 = .ok (.iload_n 2, 1) := by decide +kernel
theorem dX6_three_15 : decode cX6_three 15 = .ok (.aload_n 0, 1) := by decide +kernel
theorem dX6_three_16 : decode cX6_three 16 = .ok (.getfield 112, 3) := by decide +kernel
theorem dX6_three_19 : decode cX6_three 19 = .ok (.iastore, 1) := by decide +kernel
theorem dX6_three_20 : decode cX6_three 20 = .ok (.aload_n 0, 1) := by decide +kernel
theorem dX6_three_21 : decode cX6_three 21 = .ok (.iconst 0, 1) := by decide +kernel
theorem dX6_three_22 : decode cX6_three 22 = .ok (.iload 4, 2) := by decide +kernel
theorem dX6_three_24 : decode cX6_three 24 = .ok (.bipush 44, 2) := by decide +kernel
theorem dX6_three_26 : decode cX6_three 26 = .ok (.invokevirtual 115, 3) := by decide +kernel
theorem dX6_three_29 : decode cX6_three 29 = .ok (.ifCond .ne 5, 3) := by decide +kernel
theorem dX6_three_32 : decode cX6_three 32 = .ok (.iconst 0, 1) := by decide +kernel
theorem dX6_three_33 : decode cX6_three 33 = .ok (.ireturn, 1) := by decide +kernel
theorem dX6_three_34 : decode cX6_three 34 = .ok (.aload_n 1, 1) := by decide +kernel
theorem dX6_three_35 : decode cX6_three 35 = .ok (.iload_n 2, 1) := by decide +kernel
theorem dX6_three_36 : decode cX6_three 36 = .ok (.iconst 1, 1) := by decide +kernel
theorem dX6_three_37 : decode cX6_three 37 = .ok (.iadd, 1) := by decide +kernel
theorem dX6_three_38 : decode cX6_three 38 = .ok (.aload_n 0, 1) := by decide +kernel
theorem dX6_three_39 : decode cX6_three 39 = .ok (.getfield 112, 3) := by decide +kernel
theorem dX6_three_42 : decode cX6_three 42 = .ok (.iastore, 1) := by decide +kernel
theorem dX6_three_43 : decode cX6_three 43 = .ok (.aload_n 0, 1) := by decide +kernel
theorem dX6_three_44 : decode cX6_three 44 = .ok (.iload 5, 2) := by decide +kernel
theorem dX6_three_46 : decode cX6_three 46 = .ok (.iload 6, 2) := by decide +kernel
theorem dX6_three_48 : decode cX6_three 48 = .ok (.bipush 59, 2) := by decide +kernel
theorem dX6_three_50 : decode cX6_three 50 = .ok (.invokevirtual 115, 3) := by decide +kernel
theorem dX6_three_53 : decode cX6_three 53 = .ok (.ifCond .ne 5, 3) := by decide +kernel
theorem dX6_three_56 : decode cX6_three 56 = .ok (.iconst 0, 1) := by decide +kernel
theorem dX6_three_57 : decode cX6_three 57 = .ok (.ireturn, 1) := by decide +kernel
theorem dX6_three_58 : decode cX6_three 58 = .ok (.aload_n 1, 1) := by decide +kernel
theorem dX6_three_59 : decode cX6_three 59 = .ok (.iload_n 2, 1) := by decide +kernel
theorem dX6_three_60 : decode cX6_three 60 = .ok (.iconst 2, 1) := by decide +kernel
theorem dX6_three_61 : decode cX6_three 61 = .ok (.iadd, 1) := by decide +kernel
theorem dX6_three_62 : decode cX6_three 62 = .ok (.aload_n 0, 1) := by decide +kernel
theorem dX6_three_63 : decode cX6_three 63 = .ok (.getfield 112, 3) := by decide +kernel
theorem dX6_three_66 : decode cX6_three 66 = .ok (.iastore, 1) := by decide +kernel
theorem dX6_three_67 : decode cX6_three 67 = .ok (.iconst 1, 1) := by decide +kernel
theorem dX6_three_68 : decode cX6_three 68 = .ok (.ireturn, 1) := by decide +kernel
theorem dX6_readsWind_0 : decode cX6_readsWind 0 = .ok (.aload_n 0, 1) := by decide +kernel
theorem dX6_readsWind_1 : decode cX6_readsWind 1 = .ok (.iconst 0, 1) := by decide +kernel
theorem dX6_readsWind_2 : decode cX6_readsWind 2 = .ok (.iconst 4, 1) := by decide +kernel
theorem dX6_readsWind_3 : decode cX6_readsWind 3 = .ok (.bipush 44, 2) := by decide +kernel
theorem dX6_readsWind_5 : decode cX6_readsWind 5 = .ok (.invokevirtual 115, 3) := by decide +kernel
theorem dX6_readsWind_8 : decode cX6_readsWind 8 = .ok (.ifCond .ne 5, 3) := by decide +kernel
theorem dX6_readsWind_11 : decode cX6_readsWind 11 = .ok (.iconst 0, 1) := by decide +kernel
theorem dX6_readsWind_12 : decode cX6_readsWind 12 = .ok (.ireturn, 1) := by decide +kernel
theorem dX6_readsWind_13 : decode cX6_readsWind 13 = .ok (.aload_n 0, 1) := by decide +kernel
theorem dX6_readsWind_14 : decode cX6_readsWind 14 = .ok (.getfield 43, 3) := by decide +kernel
theorem dX6_readsWind_17 : decode cX6_readsWind 17 = .ok (.iconst 3, 1) := by decide +kernel
theorem dX6_readsWind_18 : decode cX6_readsWind 18 = .ok (.aload_n 0, 1) := by decide +kernel
theorem dX6_readsWind_19 : decode cX6_readsWind 19 = .ok (.getfield 112, 3) := by decide +kernel
theorem dX6_readsWind_22 : decode cX6_readsWind 22 = .ok (.iastore, 1) := by decide +kernel
theorem dX6_readsWind_23 : decode cX6_readsWind 23 = .ok (.aload_n 0, 1) := by decide +kernel
theorem dX6_readsWind_24 : decode cX6_readsWind 24 = .ok (.iconst 0, 1) := by decide +kernel
theorem dX6_readsWind_25 : decode cX6_readsWind 25 = .ok (.bipush 20, 2) := by decide +kernel
theorem dX6_readsWind_27 : decode cX6_readsWind 27 = .ok (.bipush 59, 2) := by decide +kernel
theorem dX6_readsWind_29 : decode cX6_readsWind 29 = .ok (.invokevirtual 115, 3) := by decide +kernel
theorem dX6_readsWind_32 : decode cX6_readsWind 32 = .ok (.ifCond .ne 5, 3) := by decide +kernel
theorem dX6_readsWind_35 : decode cX6_readsWind 35 = .ok (.iconst 0, 1) := by decide +kernel
theorem dX6_readsWind_36 : decode cX6_readsWind 36 = .ok (.ireturn, 1) := by decide +kernel
theorem dX6_readsWind_37 : decode cX6_readsWind 37 = .ok (.aload_n 0, 1) := by decide +kernel
theorem dX6_readsWind_38 : decode cX6_readsWind 38 = .ok (.getfield 43, 3) := by decide +kernel
theorem dX6_readsWind_41 : decode cX6_readsWind 41 = .ok (.iconst 4, 1) := by decide +kernel
theorem dX6_readsWind_42 : decode cX6_readsWind 42 = .ok (.aload_n 0, 1) := by decide +kernel
theorem dX6_readsWind_43 : decode cX6_readsWind 43 = .ok (.getfield 112, 3) := by decide +kernel
theorem dX6_readsWind_46 : decode cX6_readsWind 46 = .ok (.iastore, 1) := by decide +kernel
theorem dX6_readsWind_47 : decode cX6_readsWind 47 = .ok (.iconst 1, 1) := by decide +kernel
theorem dX6_readsWind_48 : decode cX6_readsWind 48 = .ok (.ireturn, 1) := by decide +kernel
theorem dX6_readsItem_0 : decode cX6_readsItem 0 = .ok (.aload_n 0, 1) := by decide +kernel
theorem dX6_readsItem_1 : decode cX6_readsItem 1 = .ok (.invokevirtual 104, 3) := by decide +kernel
theorem dX6_readsItem_4 : decode cX6_readsItem 4 = .ok (.istore_n 1, 1) := by decide +kernel
theorem dX6_readsItem_5 : decode cX6_readsItem 5 = .ok (.aload_n 0, 1) := by decide +kernel
theorem dX6_readsItem_6 : decode cX6_readsItem 6 = .ok (.dup, 1) := by decide +kernel
theorem dX6_readsItem_7 : decode cX6_readsItem 7 = .ok (.getfield 101, 3) := by decide +kernel
theorem dX6_readsItem_10 : decode cX6_readsItem 10 = .ok (.iconst 1, 1) := by decide +kernel
theorem dX6_readsItem_11 : decode cX6_readsItem 11 = .ok (.iadd, 1) := by decide +kernel
theorem dX6_readsItem_12 : decode cX6_readsItem 12 = .ok (.putfield 101, 3) := by decide +kernel
theorem dX6_readsItem_15 : decode cX6_readsItem 15 = .ok (.iload_n 1, 1) := by decide +kernel
theorem dX6_readsItem_16 : decode cX6_readsItem 16 = .ok (.bipush 115, 2) := by decide +kernel
theorem dX6_readsItem_18 : decode cX6_readsItem 18 = .ok (.if_icmp .ne 20, 3) := by decide +kernel
theorem dX6_readsItem_21 : decode cX6_readsItem 21 = .ok (.aload_n 0, 1) := by decide +kernel
theorem dX6_readsItem_22 : decode cX6_readsItem 22 = .ok (.aload_n 0, 1) := by decide +kernel
theorem dX6_readsItem_23 : decode cX6_readsItem 23 = .ok (.getfield 43, 3) := by decide +kernel
theorem dX6_readsItem_26 : decode cX6_readsItem 26 = .ok (.iconst 0, 1) := by decide +kernel
theorem dX6_readsItem_27 : decode cX6_readsItem 27 = .ok (.bipush 8, 2) := by decide +kernel
theorem dX6_readsItem_29 : decode cX6_readsItem 29 = .ok (.bipush 8, 2) := by decide +kernel
theorem dX6_readsItem_31 : decode cX6_readsItem 31 = .ok (.iconst 0, 1) := by decide +kernel
theorem dX6_readsItem_32 : decode cX6_readsItem 32 = .ok (.bipush 20, 2) := by decide +kernel
theorem dX6_readsItem_34 : decode cX6_readsItem 34 = .ok (.invokevirtual 118, 3) := by decide +kernel
theorem dX6_readsItem_37 : decode cX6_readsItem 37 = .ok (.ireturn, 1) := by decide +kernel
theorem dX6_readsItem_38 : decode cX6_readsItem 38 = .ok (.iload_n 1, 1) := by decide +kernel
theorem dX6_readsItem_39 : decode cX6_readsItem 39 = .ok (.bipush 119, 2) := by decide +kernel
theorem dX6_readsItem_41 : decode cX6_readsItem 41 = .ok (.if_icmp .ne 8, 3) := by decide +kernel
theorem dX6_readsItem_44 : decode cX6_readsItem 44 = .ok (.aload_n 0, 1) := by decide +kernel
theorem dX6_readsItem_45 : decode cX6_readsItem 45 = .ok (.invokevirtual 122, 3) := by decide +kernel
theorem dX6_readsItem_48 : decode cX6_readsItem 48 = .ok (.ireturn, 1) := by decide +kernel
theorem dX6_readsItem_49 : decode cX6_readsItem 49 = .ok (.iload_n 1, 1) := by decide +kernel
theorem dX6_readsItem_50 : decode cX6_readsItem 50 = .ok (.bipush 112, 2) := by decide +kernel
theorem dX6_readsItem_52 : decode cX6_readsItem 52 = .ok (.if_icmp .ne 60, 3) := by decide +kernel
theorem dX6_readsItem_55 : decode cX6_readsItem 55 = .ok (.aload_n 0, 1) := by decide +kernel
theorem dX6_readsItem_56 : decode cX6_readsItem 56 = .ok (.getfield 125, 3) := by decide +kernel
theorem dX6_readsItem_59 : decode cX6_readsItem 59 = .ok (.iconst 5, 1) := by decide +kernel
theorem dX6_readsItem_60 : decode cX6_readsItem 60 = .ok (.if_icmp .ge 30, 3) := by decide +kernel
theorem dX6_readsItem_63 : decode cX6_readsItem 63 = .ok (.aload_n 0, 1) := by decide +kernel
theorem dX6_readsItem_64 : decode cX6_readsItem 64 = .ok (.aload_n 0, 1) := by decide +kernel
theorem dX6_readsItem_65 : decode cX6_readsItem 65 = .ok (.getfield 46, 3) := by decide +kernel
theorem dX6_readsItem_68 : decode cX6_readsItem 68 = .ok (.iconst 3, 1) := by decide +kernel
theorem dX6_readsItem_69 : decode cX6_readsItem 69 = .ok (.aload_n 0, 1) := by decide +kernel
theorem dX6_readsItem_70 : decode cX6_readsItem 70 = .ok (.getfield 125, 3) := by decide +kernel
theorem dX6_readsItem_73 : decode cX6_readsItem 73 = .ok (.imul, 1) := by decide +kernel
theorem dX6_readsItem_74 : decode cX6_readsItem 74 = .ok (.bipush 8, 2) := by decide +kernel
theorem dX6_readsItem_76 : decode cX6_readsItem 76 = .ok (.bipush 8, 2) := by decide +kernel
theorem dX6_readsItem_78 : decode cX6_readsItem 78 = .ok (.iconst 0, 1) := by decide +kernel
theorem dX6_readsItem_79 : decode cX6_readsItem 79 = .ok (.iconst 5, 1) := by decide +kernel
theorem dX6_readsItem_80 : decode cX6_readsItem 80 = .ok (.invokevirtual 118, 3) := by decide +kernel
theorem dX6_readsItem_83 : decode cX6_readsItem 83 = .ok (.ifCond .eq 7, 3) := by decide +kernel
theorem dX6_readsItem_86 : decode cX6_readsItem 86 = .ok (.iconst 1, 1) := by decide +kernel
theorem dX6_readsItem_87 : decode cX6_readsItem 87 = .ok (.goto 4, 3) := by decide +kernel
theorem dX6_readsItem_90 : decode cX6_readsItem 90 = .ok (.iconst 0, 1) := by decide +kernel
theorem dX6_readsItem_91 : decode cX6_readsItem 91 = .ok (.istore_n 2, 1) := by decide +kernel
theorem dX6_readsItem_92 : decode cX6_readsItem 92 = .ok (.aload_n 0, 1) := by decide +kernel
theorem dX6_readsItem_93 : decode cX6_readsItem 93 = .ok (.dup, 1) := by decide +kernel
theorem dX6_readsItem_94 : decode cX6_readsItem 94 = .ok (.getfield 125, 3) := by decide +kernel
theorem dX6_readsItem_97 : decode cX6_readsItem 97 = .ok (.iload_n 2, 1) := by decide +kernel
theorem dX6_readsItem_98 : decode cX6_readsItem 98 = .ok (.ifCond .eq 7, 3) := by decide +kernel
theorem dX6_readsItem_101 : decode cX6_readsItem 101 = .ok (.iconst 1, 1) := by decide +kernel
theorem dX6_readsItem_102 : decode cX6_readsItem 102 = .ok (.goto 4, 3) := by decide +kernel
theorem dX6_readsItem_105 : decode cX6_readsItem 105 = .ok (.iconst 0, 1) := by decide +kernel
theorem dX6_readsItem_106 : decode cX6_readsItem 106 = .ok (.iadd, 1) := by decide +kernel
theorem dX6_readsItem_107 : decode cX6_readsItem 107 = .ok (.putfield 125, 3) := by decide +kernel
theorem dX6_readsItem_110 : decode cX6_readsItem 110 = .ok (.iload_n 2, 1) := by decide +kernel
theorem dX6_readsItem_111 : decode cX6_readsItem 111 = .ok (.ireturn, 1) := by decide +kernel
theorem dX6_readsItem_112 : decode cX6_readsItem 112 = .ok (.iload_n 1, 1) := by decide +kernel
theorem dX6_readsItem_113 : decode cX6_readsItem 113 = .ok (.bipush 99, 2) := by decide +kernel
theorem dX6_readsItem_115 : decode cX6_readsItem 115 = .ok (.if_icmp .ne 38, 3) := by decide +kernel
theorem dX6_readsItem_118 : decode cX6_readsItem 118 = .ok (.aload_n 0, 1) := by decide +kernel
theorem dX6_readsItem_119 : decode cX6_readsItem 119 = .ok (.getfield 128, 3) := by decide +kernel
theorem dX6_readsItem_122 : decode cX6_readsItem 122 = .ok (.bipush 7, 2) := by decide +kernel
theorem dX6_readsItem_124 : decode cX6_readsItem 124 = .ok (.if_icmp .ge 29, 3) := by decide +kernel
theorem dX6_readsItem_127 : decode cX6_readsItem 127 = .ok (.aload_n 0, 1) := by decide +kernel
theorem dX6_readsItem_128 : decode cX6_readsItem 128 = .ok (.aload_n 0, 1) := by decide +kernel
theorem dX6_readsItem_129 : decode cX6_readsItem 129 = .ok (.getfield 49, 3) := by decide +kernel
theorem dX6_readsItem_132 : decode cX6_readsItem 132 = .ok (.iconst 3, 1) := by decide +kernel
theorem dX6_readsItem_133 : decode cX6_readsItem 133 = .ok (.aload_n 0, 1) := by decide +kernel
theorem dX6_readsItem_134 : decode cX6_readsItem 134 = .ok (.getfield 128, 3) := by decide +kernel
theorem dX6_readsItem_137 : decode cX6_readsItem 137 = .ok (.imul, 1) := by decide +kernel
theorem dX6_readsItem_138 : decode cX6_readsItem 138 = .ok (.iconst 3, 1) := by decide +kernel
theorem dX6_readsItem_139 : decode cX6_readsItem 139 = .ok (.iconst 5, 1) := by decide +kernel
theorem dX6_readsItem_140 : decode cX6_readsItem 140 = .ok (.iconst 1, 1) := by decide +kernel
theorem dX6_readsItem_141 : decode cX6_readsItem 141 = .ok (.bipush 9, 2) := by decide +kernel
theorem dX6_readsItem_143 : decode cX6_readsItem 143 = .ok (.invokevirtual 118, 3) := by decide +kernel
theorem dX6_readsItem_146 : decode cX6_readsItem 146 = .ok (.ifCond .eq 7, 3) := by decide +kernel
theorem dX6_readsItem_149 : decode cX6_readsItem 149 = .ok (.iconst 1, 1) := by decide +kernel
theorem dX6_readsItem_150 : decode cX6_readsItem 150 = .ok (.goto 4, 3) := by decide +kernel
theorem dX6_readsItem_153 : decode cX6_readsItem 153 = .ok (.iconst 0, 1) := by decide +kernel
theorem dX6_readsItem_154 : decode cX6_readsItem 154 = .ok (.istore_n 2, 1) := by decide +kernel
theorem dX6_readsItem_155 : decode cX6_readsItem 155 = .ok (.aload_n 0, 1) := by decide +kernel
theorem dX6_readsItem_156 : decode cX6_readsItem 156 = .ok (.dup, 1) := by decide +kernel
theorem dX6_readsItem_157 : decode cX6_readsItem 157 = .ok (.getfield 128, 3) := by decide +kernel
theorem dX6_readsItem_160 : decode cX6_readsItem 160 = .ok (.iload_n 2, 1) := by decide +kernel
theorem dX6_readsItem_161 : decode cX6_readsItem 161 = .ok (.ifCond .eq 7, 3) := by decide +kernel
theorem dX6_readsItem_164 : decode cX6_readsItem 164 = .ok (.iconst 1, 1) := by decide +kernel
theorem dX6_readsItem_165 : decode cX6_readsItem 165 = .ok (.goto 4, 3) := by decide +kernel
theorem dX6_readsItem_168 : decode cX6_readsItem 168 = .ok (.iconst 0, 1) := by decide +kernel
theorem dX6_readsItem_169 : decode cX6_readsItem 169 = .ok (.iadd, 1) := by decide +kernel
theorem dX6_readsItem_170 : decode cX6_readsItem 170 = .ok (.putfield 128, 3) := by decide +kernel
theorem dX6_readsItem_173 : decode cX6_readsItem 173 = .ok (.iload_n 2, 1) := by decide +kernel
theorem dX6_readsItem_174 : decode cX6_readsItem 174 = .ok (.ireturn, 1) := by decide +kernel
theorem dX6_fault_0 : decode cX6_fault 0 = .ok (.aload_n 0, 1) := by decide +kernel
theorem dX6_fault_1 : decode cX6_fault 1 = .ok (.iconst 0, 1) := by decide +kernel
theorem dX6_fault_2 : decode cX6_fault 2 = .ok (.putfield 101, 3) := by decide +kernel
theorem dX6_fault_5 : decode cX6_fault 5 = .ok (.aload_n 0, 1) := by decide +kernel
theorem dX6_fault_6 : decode cX6_fault 6 = .ok (.iconst 0, 1) := by decide +kernel
theorem dX6_fault_7 : decode cX6_fault 7 = .ok (.putfield 125, 3) := by decide +kernel
theorem dX6_fault_10 : decode cX6_fault 10 = .ok (.aload_n 0, 1) := by decide +kernel
theorem dX6_fault_11 : decode cX6_fault 11 = .ok (.iconst 0, 1) := by decide +kernel
theorem dX6_fault_12 : decode cX6_fault 12 = .ok (.putfield 128, 3) := by decide +kernel
theorem dX6_fault_15 : decode cX6_fault 15 = .ok (.aload_n 0, 1) := by decide +kernel
theorem dX6_fault_16 : decode cX6_fault 16 = .ok (.getfield 43, 3) := by decide +kernel
theorem dX6_fault_19 : decode cX6_fault 19 = .ok (.iconst 0, 1) := by decide +kernel
theorem dX6_fault_20 : decode cX6_fault 20 = .ok (.iconst 4, 1) := by decide +kernel
theorem dX6_fault_21 : decode cX6_fault 21 = .ok (.iastore, 1) := by decide +kernel
theorem dX6_fault_22 : decode cX6_fault 22 = .ok (.aload_n 0, 1) := by decide +kernel
theorem dX6_fault_23 : decode cX6_fault 23 = .ok (.getfield 43, 3) := by decide +kernel
theorem dX6_fault_26 : decode cX6_fault 26 = .ok (.iconst 1, 1) := by decide +kernel
theorem dX6_fault_27 : decode cX6_fault 27 = .ok (.iconst 4, 1) := by decide +kernel
theorem dX6_fault_28 : decode cX6_fault 28 = .ok (.iastore, 1) := by decide +kernel
theorem dX6_fault_29 : decode cX6_fault 29 = .ok (.aload_n 0, 1) := by decide +kernel
theorem dX6_fault_30 : decode cX6_fault 30 = .ok (.getfield 43, 3) := by decide +kernel
theorem dX6_fault_33 : decode cX6_fault 33 = .ok (.iconst 2, 1) := by decide +kernel
theorem dX6_fault_34 : decode cX6_fault 34 = .ok (.iconst 2, 1) := by decide +kernel
theorem dX6_fault_35 : decode cX6_fault 35 = .ok (.iastore, 1) := by decide +kernel
theorem dX6_fault_36 : decode cX6_fault 36 = .ok (.aload_n 0, 1) := by decide +kernel
theorem dX6_fault_37 : decode cX6_fault 37 = .ok (.getfield 43, 3) := by decide +kernel
theorem dX6_fault_40 : decode cX6_fault 40 = .ok (.iconst 3, 1) := by decide +kernel
theorem dX6_fault_41 : decode cX6_fault 41 = .ok (.iconst 0, 1) := by decide +kernel
theorem dX6_fault_42 : decode cX6_fault 42 = .ok (.iastore, 1) := by decide +kernel
theorem dX6_fault_43 : decode cX6_fault 43 = .ok (.aload_n 0, 1) := by decide +kernel
theorem dX6_fault_44 : decode cX6_fault 44 = .ok (.getfield 43, 3) := by decide +kernel
theorem dX6_fault_47 : decode cX6_fault 47 = .ok (.iconst 4, 1) := by decide +kernel
theorem dX6_fault_48 : decode cX6_fault 48 = .ok (.iconst 0, 1) := by decide +kernel
theorem dX6_fault_49 : decode cX6_fault 49 = .ok (.iastore, 1) := by decide +kernel
theorem dX6_fault_50 : decode cX6_fault 50 = .ok (.aload_n 0, 1) := by decide +kernel
theorem dX6_fault_51 : decode cX6_fault 51 = .ok (.getfield 101, 3) := by decide +kernel
theorem dX6_fault_54 : decode cX6_fault 54 = .ok (.aload_n 0, 1) := by decide +kernel
theorem dX6_fault_55 : decode cX6_fault 55 = .ok (.getfield 98, 3) := by decide +kernel
theorem dX6_fault_58 : decode cX6_fault 58 = .ok (.if_icmp .ge 20, 3) := by decide +kernel
theorem dX6_fault_61 : decode cX6_fault 61 = .ok (.aload_n 0, 1) := by decide +kernel
theorem dX6_fault_62 : decode cX6_fault 62 = .ok (.getfield 101, 3) := by decide +kernel
theorem dX6_fault_65 : decode cX6_fault 65 = .ok (.istore_n 1, 1) := by decide +kernel
theorem dX6_fault_66 : decode cX6_fault 66 = .ok (.aload_n 0, 1) := by decide +kernel
theorem dX6_fault_67 : decode cX6_fault 67 = .ok (.invokevirtual 131, 3) := by decide +kernel
theorem dX6_fault_70 : decode cX6_fault 70 = .ok (.ifCond .ne 5, 3) := by decide +kernel
theorem dX6_fault_73 : decode cX6_fault 73 = .ok (.iload_n 1, 1) := by decide +kernel
theorem dX6_fault_74 : decode cX6_fault 74 = .ok (.ireturn, 1) := by decide +kernel
theorem dX6_fault_75 : decode cX6_fault 75 = .ok (.goto (-25), 3) := by decide +kernel
theorem dX6_fault_78 : decode cX6_fault 78 = .ok (.bipush (-4), 2) := by decide +kernel
theorem dX6_fault_80 : decode cX6_fault 80 = .ok (.ireturn, 1) := by decide +kernel
theorem dX6_lay_0 : decode cX6_lay 0 = .ok (.aload_n 0, 1) := by decide +kernel
theorem dX6_lay_1 : decode cX6_lay 1 = .ok (.invokevirtual 134, 3) := by decide +kernel
theorem dX6_lay_4 : decode cX6_lay 4 = .ok (.bipush (-4), 2) := by decide +kernel
theorem dX6_lay_6 : decode cX6_lay 6 = .ok (.if_icmp .ne 17, 3) := by decide +kernel
theorem dX6_lay_9 : decode cX6_lay 9 = .ok (.aload_n 0, 1) := by decide +kernel
theorem dX6_lay_10 : decode cX6_lay 10 = .ok (.getfield 125, 3) := by decide +kernel
theorem dX6_lay_13 : decode cX6_lay 13 = .ok (.ifCond .eq 10, 3) := by decide +kernel
theorem dX6_lay_16 : decode cX6_lay 16 = .ok (.aload_n 0, 1) := by decide +kernel
theorem dX6_lay_17 : decode cX6_lay 17 = .ok (.getfield 128, 3) := by decide +kernel
theorem dX6_lay_20 : decode cX6_lay 20 = .ok (.ifCond .ne 6, 3) := by decide +kernel
theorem dX6_lay_23 : decode cX6_lay 23 = .ok (.bipush (-2), 2) := by decide +kernel
theorem dX6_lay_25 : decode cX6_lay 25 = .ok (.ireturn, 1) := by decide +kernel
theorem dX6_lay_26 : decode cX6_lay 26 = .ok (.aload_n 0, 1) := by decide +kernel
theorem dX6_lay_27 : decode cX6_lay 27 = .ok (.aload_n 0, 1) := by decide +kernel
theorem dX6_lay_28 : decode cX6_lay 28 = .ok (.getfield 43, 3) := by decide +kernel
theorem dX6_lay_31 : decode cX6_lay 31 = .ok (.iconst 0, 1) := by decide +kernel
theorem dX6_lay_32 : decode cX6_lay 32 = .ok (.iaload, 1) := by decide +kernel
theorem dX6_lay_33 : decode cX6_lay 33 = .ok (.putfield 61, 3) := by decide +kernel
theorem dX6_lay_36 : decode cX6_lay 36 = .ok (.aload_n 0, 1) := by decide +kernel
theorem dX6_lay_37 : decode cX6_lay 37 = .ok (.aload_n 0, 1) := by decide +kernel
theorem dX6_lay_38 : decode cX6_lay 38 = .ok (.getfield 43, 3) := by decide +kernel
theorem dX6_lay_41 : decode cX6_lay 41 = .ok (.iconst 1, 1) := by decide +kernel
theorem dX6_lay_42 : decode cX6_lay 42 = .ok (.iaload, 1) := by decide +kernel
theorem dX6_lay_43 : decode cX6_lay 43 = .ok (.putfield 65, 3) := by decide +kernel
theorem dX6_lay_46 : decode cX6_lay 46 = .ok (.aload_n 0, 1) := by decide +kernel
theorem dX6_lay_47 : decode cX6_lay 47 = .ok (.aload_n 0, 1) := by decide +kernel
theorem dX6_lay_48 : decode cX6_lay 48 = .ok (.getfield 43, 3) := by decide +kernel
theorem dX6_lay_51 : decode cX6_lay 51 = .ok (.iconst 2, 1) := by decide +kernel
theorem dX6_lay_52 : decode cX6_lay 52 = .ok (.iaload, 1) := by decide +kernel
theorem dX6_lay_53 : decode cX6_lay 53 = .ok (.putfield 68, 3) := by decide +kernel
theorem dX6_lay_56 : decode cX6_lay 56 = .ok (.aload_n 0, 1) := by decide +kernel
theorem dX6_lay_57 : decode cX6_lay 57 = .ok (.aload_n 0, 1) := by decide +kernel
theorem dX6_lay_58 : decode cX6_lay 58 = .ok (.getfield 43, 3) := by decide +kernel
theorem dX6_lay_61 : decode cX6_lay 61 = .ok (.iconst 3, 1) := by decide +kernel
theorem dX6_lay_62 : decode cX6_lay 62 = .ok (.iaload, 1) := by decide +kernel
theorem dX6_lay_63 : decode cX6_lay 63 = .ok (.putfield 71, 3) := by decide +kernel
theorem dX6_lay_66 : decode cX6_lay 66 = .ok (.aload_n 0, 1) := by decide +kernel
theorem dX6_lay_67 : decode cX6_lay 67 = .ok (.aload_n 0, 1) := by decide +kernel
theorem dX6_lay_68 : decode cX6_lay 68 = .ok (.getfield 43, 3) := by decide +kernel
theorem dX6_lay_71 : decode cX6_lay 71 = .ok (.iconst 4, 1) := by decide +kernel
theorem dX6_lay_72 : decode cX6_lay 72 = .ok (.iaload, 1) := by decide +kernel
theorem dX6_lay_73 : decode cX6_lay 73 = .ok (.putfield 74, 3) := by decide +kernel
theorem dX6_lay_76 : decode cX6_lay 76 = .ok (.aload_n 0, 1) := by decide +kernel
theorem dX6_lay_77 : decode cX6_lay 77 = .ok (.aload_n 0, 1) := by decide +kernel
theorem dX6_lay_78 : decode cX6_lay 78 = .ok (.getfield 125, 3) := by decide +kernel
theorem dX6_lay_81 : decode cX6_lay 81 = .ok (.putfield 84, 3) := by decide +kernel
theorem dX6_lay_84 : decode cX6_lay 84 = .ok (.aload_n 0, 1) := by decide +kernel
theorem dX6_lay_85 : decode cX6_lay 85 = .ok (.aload_n 0, 1) := by decide +kernel
theorem dX6_lay_86 : decode cX6_lay 86 = .ok (.getfield 128, 3) := by decide +kernel
theorem dX6_lay_89 : decode cX6_lay 89 = .ok (.putfield 91, 3) := by decide +kernel
theorem dX6_lay_92 : decode cX6_lay 92 = .ok (.iconst 0, 1) := by decide +kernel
theorem dX6_lay_93 : decode cX6_lay 93 = .ok (.istore_n 1, 1) := by decide +kernel
theorem dX6_lay_94 : decode cX6_lay 94 = .ok (.iload_n 1, 1) := by decide +kernel
theorem dX6_lay_95 : decode cX6_lay 95 = .ok (.aload_n 0, 1) := by decide +kernel
theorem dX6_lay_96 : decode cX6_lay 96 = .ok (.getfield 84, 3) := by decide +kernel
theorem dX6_lay_99 : decode cX6_lay 99 = .ok (.if_icmp .ge 42, 3) := by decide +kernel
theorem dX6_lay_102 : decode cX6_lay 102 = .ok (.aload_n 0, 1) := by decide +kernel
theorem dX6_lay_103 : decode cX6_lay 103 = .ok (.iload_n 1, 1) := by decide +kernel
theorem dX6_lay_104 : decode cX6_lay 104 = .ok (.aload_n 0, 1) := by decide +kernel
theorem dX6_lay_105 : decode cX6_lay 105 = .ok (.getfield 46, 3) := by decide +kernel
theorem dX6_lay_108 : decode cX6_lay 108 = .ok (.iconst 3, 1) := by decide +kernel
theorem dX6_lay_109 : decode cX6_lay 109 = .ok (.iload_n 1, 1) := by decide +kernel
theorem dX6_lay_110 : decode cX6_lay 110 = .ok (.imul, 1) := by decide +kernel
theorem dX6_lay_111 : decode cX6_lay 111 = .ok (.iaload, 1) := by decide +kernel
theorem dX6_lay_112 : decode cX6_lay 112 = .ok (.aload_n 0, 1) := by decide +kernel
theorem dX6_lay_113 : decode cX6_lay 113 = .ok (.getfield 46, 3) := by decide +kernel
theorem dX6_lay_116 : decode cX6_lay 116 = .ok (.iconst 3, 1) := by decide +kernel
theorem dX6_lay_117 : decode cX6_lay 117 = .ok (.iload_n 1, 1) := by decide +kernel
theorem dX6_lay_118 : decode cX6_lay 118 = .ok (.imul, 1) := by decide +kernel
theorem dX6_lay_119 : decode cX6_lay 119 = .ok (.iconst 1, 1) := by decide +kernel
theorem dX6_lay_120 : decode cX6_lay 120 = .ok (.iadd, 1) := by decide +kernel
theorem dX6_lay_121 : decode cX6_lay 121 = .ok (.iaload, 1) := by decide +kernel
theorem dX6_lay_122 : decode cX6_lay 122 = .ok (.aload_n 0, 1) := by decide +kernel
theorem dX6_lay_123 : decode cX6_lay 123 = .ok (.getfield 46, 3) := by decide +kernel
theorem dX6_lay_126 : decode cX6_lay 126 = .ok (.iconst 3, 1) := by decide +kernel
theorem dX6_lay_127 : decode cX6_lay 127 = .ok (.iload_n 1, 1) := by decide +kernel
theorem dX6_lay_128 : decode cX6_lay 128 = .ok (.imul, 1) := by decide +kernel
theorem dX6_lay_129 : decode cX6_lay 129 = .ok (.iconst 2, 1) := by decide +kernel
theorem dX6_lay_130 : decode cX6_lay 130 = .ok (.iadd, 1) := by decide +kernel
theorem dX6_lay_131 : decode cX6_lay 131 = .ok (.iaload, 1) := by decide +kernel
theorem dX6_lay_132 : decode cX6_lay 132 = .ok (.invokevirtual 87, 3) := by decide +kernel
theorem dX6_lay_135 : decode cX6_lay 135 = .ok (.iinc 1 1, 3) := by decide +kernel
theorem dX6_lay_138 : decode cX6_lay 138 = .ok (.goto (-44), 3) := by decide +kernel
theorem dX6_lay_141 : decode cX6_lay 141 = .ok (.iconst 0, 1) := by decide +kernel
theorem dX6_lay_142 : decode cX6_lay 142 = .ok (.istore_n 1, 1) := by decide +kernel
theorem dX6_lay_143 : decode cX6_lay 143 = .ok (.iload_n 1, 1) := by decide +kernel
theorem dX6_lay_144 : decode cX6_lay 144 = .ok (.aload_n 0, 1) := by decide +kernel
theorem dX6_lay_145 : decode cX6_lay 145 = .ok (.getfield 91, 3) := by decide +kernel
theorem dX6_lay_148 : decode cX6_lay 148 = .ok (.if_icmp .ge 55, 3) := by decide +kernel
theorem dX6_lay_151 : decode cX6_lay 151 = .ok (.aload_n 0, 1) := by decide +kernel
theorem dX6_lay_152 : decode cX6_lay 152 = .ok (.getfield 9, 3) := by decide +kernel
theorem dX6_lay_155 : decode cX6_lay 155 = .ok (.iload_n 1, 1) := by decide +kernel
theorem dX6_lay_156 : decode cX6_lay 156 = .ok (.aload_n 0, 1) := by decide +kernel
theorem dX6_lay_157 : decode cX6_lay 157 = .ok (.getfield 49, 3) := by decide +kernel
theorem dX6_lay_160 : decode cX6_lay 160 = .ok (.iconst 3, 1) := by decide +kernel
theorem dX6_lay_161 : decode cX6_lay 161 = .ok (.iload_n 1, 1) := by decide +kernel
theorem dX6_lay_162 : decode cX6_lay 162 = .ok (.imul, 1) := by decide +kernel
theorem dX6_lay_163 : decode cX6_lay 163 = .ok (.iaload, 1) := by decide +kernel
theorem dX6_lay_164 : decode cX6_lay 164 = .ok (.iastore, 1) := by decide +kernel
theorem dX6_lay_165 : decode cX6_lay 165 = .ok (.aload_n 0, 1) := by decide +kernel
theorem dX6_lay_166 : decode cX6_lay 166 = .ok (.getfield 13, 3) := by decide +kernel
theorem dX6_lay_169 : decode cX6_lay 169 = .ok (.iload_n 1, 1) := by decide +kernel
theorem dX6_lay_170 : decode cX6_lay 170 = .ok (.aload_n 0, 1) := by decide +kernel
theorem dX6_lay_171 : decode cX6_lay 171 = .ok (.getfield 49, 3) := by decide +kernel
theorem dX6_lay_174 : decode cX6_lay 174 = .ok (.iconst 3, 1) := by decide +kernel
theorem dX6_lay_175 : decode cX6_lay 175 = .ok (.iload_n 1, 1) := by decide +kernel
theorem dX6_lay_176 : decode cX6_lay 176 = .ok (.imul, 1) := by decide +kernel
theorem dX6_lay_177 : decode cX6_lay 177 = .ok (.iconst 1, 1) := by decide +kernel
theorem dX6_lay_178 : decode cX6_lay 178 = .ok (.iadd, 1) := by decide +kernel
theorem dX6_lay_179 : decode cX6_lay 179 = .ok (.iaload, 1) := by decide +kernel
theorem dX6_lay_180 : decode cX6_lay 180 = .ok (.iastore, 1) := by decide +kernel
theorem dX6_lay_181 : decode cX6_lay 181 = .ok (.aload_n 0, 1) := by decide +kernel
theorem dX6_lay_182 : decode cX6_lay 182 = .ok (.getfield 16, 3) := by decide +kernel
theorem dX6_lay_185 : decode cX6_lay 185 = .ok (.iload_n 1, 1) := by decide +kernel
theorem dX6_lay_186 : decode cX6_lay 186 = .ok (.aload_n 0, 1) := by decide +kernel
theorem dX6_lay_187 : decode cX6_lay 187 = .ok (.getfield 49, 3) := by decide +kernel
theorem dX6_lay_190 : decode cX6_lay 190 = .ok (.iconst 3, 1) := by decide +kernel
theorem dX6_lay_191 : decode cX6_lay 191 = .ok (.iload_n 1, 1) := by decide +kernel
theorem dX6_lay_192 : decode cX6_lay 192 = .ok (.imul, 1) := by decide +kernel
theorem dX6_lay_193 : decode cX6_lay 193 = .ok (.iconst 2, 1) := by decide +kernel
theorem dX6_lay_194 : decode cX6_lay 194 = .ok (.iadd, 1) := by decide +kernel
theorem dX6_lay_195 : decode cX6_lay 195 = .ok (.iaload, 1) := by decide +kernel
theorem dX6_lay_196 : decode cX6_lay 196 = .ok (.iastore, 1) := by decide +kernel
theorem dX6_lay_197 : decode cX6_lay 197 = .ok (.iinc 1 1, 3) := by decide +kernel
theorem dX6_lay_200 : decode cX6_lay 200 = .ok (.goto (-57), 3) := by decide +kernel
theorem dX6_lay_203 : decode cX6_lay 203 = .ok (.aload_n 0, 1) := by decide +kernel
theorem dX6_lay_204 : decode cX6_lay 204 = .ok (.iconst 0, 1) := by decide +kernel
theorem dX6_lay_205 : decode cX6_lay 205 = .ok (.putfield 137, 3) := by decide +kernel
theorem dX6_lay_208 : decode cX6_lay 208 = .ok (.aload_n 0, 1) := by decide +kernel
theorem dX6_lay_209 : decode cX6_lay 209 = .ok (.iconst 0, 1) := by decide +kernel
theorem dX6_lay_210 : decode cX6_lay 210 = .ok (.putfield 140, 3) := by decide +kernel
theorem dX6_lay_213 : decode cX6_lay 213 = .ok (.aload_n 0, 1) := by decide +kernel
theorem dX6_lay_214 : decode cX6_lay 214 = .ok (.iconst 0, 1) := by decide +kernel
theorem dX6_lay_215 : decode cX6_lay 215 = .ok (.putfield 143, 3) := by decide +kernel
theorem dX6_lay_218 : decode cX6_lay 218 = .ok (.aload_n 0, 1) := by decide +kernel
theorem dX6_lay_219 : decode cX6_lay 219 = .ok (.iconst 0, 1) := by decide +kernel
theorem dX6_lay_220 : decode cX6_lay 220 = .ok (.putfield 146, 3) := by decide +kernel
theorem dX6_lay_223 : decode cX6_lay 223 = .ok (.aload_n 0, 1) := by decide +kernel
theorem dX6_lay_224 : decode cX6_lay 224 = .ok (.getfield 91, 3) := by decide +kernel
theorem dX6_lay_227 : decode cX6_lay 227 = .ok (.ireturn, 1) := by decide +kernel
theorem dX6_farTo_0 : decode cX6_farTo 0 = .ok (.aload_n 0, 1) := by decide +kernel
theorem dX6_farTo_1 : decode cX6_farTo 1 = .ok (.getfield 19, 3) := by decide +kernel
theorem dX6_farTo_4 : decode cX6_farTo 4 = .ok (.iload_n 1, 1) := by decide +kernel
theorem dX6_farTo_5 : decode cX6_farTo 5 = .ok (.iaload, 1) := by decide +kernel
theorem dX6_farTo_6 : decode cX6_farTo 6 = .ok (.aload_n 0, 1) := by decide +kernel
theorem dX6_farTo_7 : decode cX6_farTo 7 = .ok (.getfield 61, 3) := by decide +kernel
theorem dX6_farTo_10 : decode cX6_farTo 10 = .ok (.isub, 1) := by decide +kernel
theorem dX6_farTo_11 : decode cX6_farTo 11 = .ok (.invokestatic 149, 3) := by decide +kernel
theorem dX6_farTo_14 : decode cX6_farTo 14 = .ok (.aload_n 0, 1) := by decide +kernel
theorem dX6_farTo_15 : decode cX6_farTo 15 = .ok (.getfield 22, 3) := by decide +kernel
theorem dX6_farTo_18 : decode cX6_farTo 18 = .ok (.iload_n 1, 1) := by decide +kernel
theorem dX6_farTo_19 : decode cX6_farTo 19 = .ok (.iaload, 1) := by decide +kernel
theorem dX6_farTo_20 : decode cX6_farTo 20 = .ok (.aload_n 0, 1) := by decide +kernel
theorem dX6_farTo_21 : decode cX6_farTo 21 = .ok (.getfield 65, 3) := by decide +kernel
theorem dX6_farTo_24 : decode cX6_farTo 24 = .ok (.isub, 1) := by decide +kernel
theorem dX6_farTo_25 : decode cX6_farTo 25 = .ok (.invokestatic 149, 3) := by decide +kernel
theorem dX6_farTo_28 : decode cX6_farTo 28 = .ok (.iadd, 1) := by decide +kernel
theorem dX6_farTo_29 : decode cX6_farTo 29 = .ok (.ireturn, 1) := by decide +kernel
theorem dX6_nearest_0 : decode cX6_nearest 0 = .ok (.bipush (-4), 2) := by decide +kernel
theorem dX6_nearest_2 : decode cX6_nearest 2 = .ok (.istore_n 2, 1) := by decide +kernel
theorem dX6_nearest_3 : decode cX6_nearest 3 = .ok (.iconst 0, 1) := by decide +kernel
theorem dX6_nearest_4 : decode cX6_nearest 4 = .ok (.istore_n 3, 1) := by decide +kernel
theorem dX6_nearest_5 : decode cX6_nearest 5 = .ok (.iload_n 3, 1) := by decide +kernel
theorem dX6_nearest_6 : decode cX6_nearest 6 = .ok (.aload_n 0, 1) := by decide +kernel
theorem dX6_nearest_7 : decode cX6_nearest 7 = .ok (.getfield 84, 3) := by decide +kernel
theorem dX6_nearest_10 : decode cX6_nearest 10 = .ok (.aload_n 0, 1) := by decide +kernel
theorem dX6_nearest_11 : decode cX6_nearest 11 = .ok (.getfield 153, 3) := by decide +kernel
theorem dX6_nearest_14 : decode cX6_nearest 14 = .ok (.iadd, 1) := by decide +kernel
theorem dX6_nearest_15 : decode cX6_nearest 15 = .ok (.if_icmp .ge 65, 3) := by decide +kernel
theorem dX6_nearest_18 : decode cX6_nearest 18 = .ok (.aload_n 0, 1) := by decide +kernel
theorem dX6_nearest_19 : decode cX6_nearest 19 = .ok (.getfield 28, 3) := by decide +kernel
theorem dX6_nearest_22 : decode cX6_nearest 22 = .ok (.iload_n 3, 1) := by decide +kernel
theorem dX6_nearest_23 : decode cX6_nearest 23 = .ok (.iaload, 1) := by decide +kernel
theorem dX6_nearest_24 : decode cX6_nearest 24 = .ok (.ifCond .ne 17, 3) := by decide +kernel
theorem dX6_nearest_27 : decode cX6_nearest 27 = .ok (.aload_n 0, 1) := by decide +kernel
theorem dX6_nearest_28 : decode cX6_nearest 28 = .ok (.getfield 25, 3) := by decide +kernel
theorem dX6_nearest_31 : decode cX6_nearest 31 = .ok (.iload_n 3, 1) := by decide +kernel
theorem dX6_nearest_32 : decode cX6_nearest 32 = .ok (.iaload, 1) := by decide +kernel
theorem dX6_nearest_33 : decode cX6_nearest 33 = .ok (.iload_n 1, 1) := by decide +kernel
theorem dX6_nearest_34 : decode cX6_nearest 34 = .ok (.if_icmp .ne 7, 3) := by decide +kernel
theorem dX6_nearest_37 : decode cX6_nearest 37 = .ok (.iconst 1, 1) := by decide +kernel
theorem dX6_nearest_38 : decode cX6_nearest 38 = .ok (.goto 4, 3) := by decide +kernel
theorem dX6_nearest_41 : decode cX6_nearest 41 = .ok (.iconst 0, 1) := by decide +kernel
theorem dX6_nearest_42 : decode cX6_nearest 42 = .ok (.istore 4, 2) := by decide +kernel
theorem dX6_nearest_44 : decode cX6_nearest 44 = .ok (.iload 4, 2) := by decide +kernel
theorem dX6_nearest_46 : decode cX6_nearest 46 = .ok (.ifCond .eq 26, 3) := by decide +kernel
theorem dX6_nearest_49 : decode cX6_nearest 49 = .ok (.iload_n 2, 1) := by decide +kernel
theorem dX6_nearest_50 : decode cX6_nearest 50 = .ok (.bipush (-4), 2) := by decide +kernel
theorem dX6_nearest_52 : decode cX6_nearest 52 = .ok (.if_icmp .eq 16, 3) := by decide +kernel
theorem dX6_nearest_55 : decode cX6_nearest 55 = .ok (.aload_n 0, 1) := by decide +kernel
theorem dX6_nearest_56 : decode cX6_nearest 56 = .ok (.iload_n 3, 1) := by decide +kernel
theorem dX6_nearest_57 : decode cX6_nearest 57 = .ok (.invokevirtual 156, 3) := by decide +kernel
theorem dX6_nearest_60 : decode cX6_nearest 60 = .ok (.aload_n 0, 1) := by decide +kernel
theorem dX6_nearest_61 : decode cX6_nearest 61 = .ok (.iload_n 2, 1) := by decide +kernel
theorem dX6_nearest_62 : decode cX6_nearest 62 = .ok (.invokevirtual 156, 3) := by decide +kernel
theorem dX6_nearest_65 : decode cX6_nearest 65 = .ok (.if_icmp .ge 7, 3) := by decide +kernel
theorem dX6_nearest_68 : decode cX6_nearest 68 = .ok (.iload_n 3, 1) := by decide +kernel
theorem dX6_nearest_69 : decode cX6_nearest 69 = .ok (.goto 4, 3) := by decide +kernel
theorem dX6_nearest_72 : decode cX6_nearest 72 = .ok (.iload_n 2, 1) := by decide +kernel
theorem dX6_nearest_73 : decode cX6_nearest 73 = .ok (.istore_n 2, 1) := by decide +kernel
theorem dX6_nearest_74 : decode cX6_nearest 74 = .ok (.iinc 3 1, 3) := by decide +kernel
theorem dX6_nearest_77 : decode cX6_nearest 77 = .ok (.goto (-72), 3) := by decide +kernel
theorem dX6_nearest_80 : decode cX6_nearest 80 = .ok (.iload_n 2, 1) := by decide +kernel
theorem dX6_nearest_81 : decode cX6_nearest 81 = .ok (.ireturn, 1) := by decide +kernel
theorem dX6_strengthBy_0 : decode cX6_strengthBy 0 = .ok (.iload_n 2, 1) := by decide +kernel
theorem dX6_strengthBy_1 : decode cX6_strengthBy 1 = .ok (.ifCond .ne 5, 3) := by decide +kernel
theorem dX6_strengthBy_4 : decode cX6_strengthBy 4 = .ok (.iconst 0, 1) := by decide +kernel
theorem dX6_strengthBy_5 : decode cX6_strengthBy 5 = .ok (.ireturn, 1) := by decide +kernel
theorem dX6_strengthBy_6 : decode cX6_strengthBy 6 = .ok (.iload_n 0, 1) := by decide +kernel
theorem dX6_strengthBy_7 : decode cX6_strengthBy 7 = .ok (.tableswitch 57 1 3 #[25, 27, 44], 25) := by decide +kernel
theorem dX6_strengthBy_32 : decode cX6_strengthBy 32 = .ok (.iload_n 1, 1) := by decide +kernel
theorem dX6_strengthBy_33 : decode cX6_strengthBy 33 = .ok (.ireturn, 1) := by decide +kernel
theorem dX6_strengthBy_34 : decode cX6_strengthBy 34 = .ok (.iload_n 1, 1) := by decide +kernel
theorem dX6_strengthBy_35 : decode cX6_strengthBy 35 = .ok (.iload_n 2, 1) := by decide +kernel
theorem dX6_strengthBy_36 : decode cX6_strengthBy 36 = .ok (.iadd, 1) := by decide +kernel
theorem dX6_strengthBy_37 : decode cX6_strengthBy 37 = .ok (.bipush 12, 2) := by decide +kernel
theorem dX6_strengthBy_39 : decode cX6_strengthBy 39 = .ok (.if_icmp .le 8, 3) := by decide +kernel
theorem dX6_strengthBy_42 : decode cX6_strengthBy 42 = .ok (.bipush 12, 2) := by decide +kernel
theorem dX6_strengthBy_44 : decode cX6_strengthBy 44 = .ok (.goto 6, 3) := by decide +kernel
theorem dX6_strengthBy_47 : decode cX6_strengthBy 47 = .ok (.iload_n 1, 1) := by decide +kernel
theorem dX6_strengthBy_48 : decode cX6_strengthBy 48 = .ok (.iload_n 2, 1) := by decide +kernel
theorem dX6_strengthBy_49 : decode cX6_strengthBy 49 = .ok (.iadd, 1) := by decide +kernel
theorem dX6_strengthBy_50 : decode cX6_strengthBy 50 = .ok (.ireturn, 1) := by decide +kernel
theorem dX6_strengthBy_51 : decode cX6_strengthBy 51 = .ok (.iload_n 2, 1) := by decide +kernel
theorem dX6_strengthBy_52 : decode cX6_strengthBy 52 = .ok (.iconst 2, 1) := by decide +kernel
theorem dX6_strengthBy_53 : decode cX6_strengthBy 53 = .ok (.if_icmp .gt 9, 3) := by decide +kernel
theorem dX6_strengthBy_56 : decode cX6_strengthBy 56 = .ok (.iconst 2, 1) := by decide +kernel
theorem dX6_strengthBy_57 : decode cX6_strengthBy 57 = .ok (.iload_n 1, 1) := by decide +kernel
theorem dX6_strengthBy_58 : decode cX6_strengthBy 58 = .ok (.imul, 1) := by decide +kernel
theorem dX6_strengthBy_59 : decode cX6_strengthBy 59 = .ok (.goto 4, 3) := by decide +kernel
theorem dX6_strengthBy_62 : decode cX6_strengthBy 62 = .ok (.iconst 0, 1) := by decide +kernel
theorem dX6_strengthBy_63 : decode cX6_strengthBy 63 = .ok (.ireturn, 1) := by decide +kernel
theorem dX6_strengthBy_64 : decode cX6_strengthBy 64 = .ok (.iload_n 1, 1) := by decide +kernel
theorem dX6_strengthBy_65 : decode cX6_strengthBy 65 = .ok (.iload_n 2, 1) := by decide +kernel
theorem dX6_strengthBy_66 : decode cX6_strengthBy 66 = .ok (.if_icmp .le 9, 3) := by decide +kernel
theorem dX6_strengthBy_69 : decode cX6_strengthBy 69 = .ok (.iload_n 1, 1) := by decide +kernel
theorem dX6_strengthBy_70 : decode cX6_strengthBy 70 = .ok (.iload_n 2, 1) := by decide +kernel
theorem dX6_strengthBy_71 : decode cX6_strengthBy 71 = .ok (.isub, 1) := by decide +kernel
theorem dX6_strengthBy_72 : decode cX6_strengthBy 72 = .ok (.goto 4, 3) := by decide +kernel
theorem dX6_strengthBy_75 : decode cX6_strengthBy 75 = .ok (.iconst 0, 1) := by decide +kernel
theorem dX6_strengthBy_76 : decode cX6_strengthBy 76 = .ok (.ireturn, 1) := by decide +kernel
theorem dX6_strength_0 : decode cX6_strength 0 = .ok (.aload_n 0, 1) := by decide +kernel
theorem dX6_strength_1 : decode cX6_strength 1 = .ok (.aload_n 0, 1) := by decide +kernel
theorem dX6_strength_2 : decode cX6_strength 2 = .ok (.getfield 13, 3) := by decide +kernel
theorem dX6_strength_5 : decode cX6_strength 5 = .ok (.iload_n 1, 1) := by decide +kernel
theorem dX6_strength_6 : decode cX6_strength 6 = .ok (.iaload, 1) := by decide +kernel
theorem dX6_strength_7 : decode cX6_strength 7 = .ok (.invokevirtual 159, 3) := by decide +kernel
theorem dX6_strength_10 : decode cX6_strength 10 = .ok (.istore_n 2, 1) := by decide +kernel
theorem dX6_strength_11 : decode cX6_strength 11 = .ok (.iload_n 2, 1) := by decide +kernel
theorem dX6_strength_12 : decode cX6_strength 12 = .ok (.bipush (-4), 2) := by decide +kernel
theorem dX6_strength_14 : decode cX6_strength 14 = .ok (.if_icmp .ne 7, 3) := by decide +kernel
theorem dX6_strength_17 : decode cX6_strength 17 = .ok (.iconst 0, 1) := by decide +kernel
theorem dX6_strength_18 : decode cX6_strength 18 = .ok (.goto 23, 3) := by decide +kernel
theorem dX6_strength_21 : decode cX6_strength 21 = .ok (.aload_n 0, 1) := by decide +kernel
theorem dX6_strength_22 : decode cX6_strength 22 = .ok (.getfield 9, 3) := by decide +kernel
theorem dX6_strength_25 : decode cX6_strength 25 = .ok (.iload_n 1, 1) := by decide +kernel
theorem dX6_strength_26 : decode cX6_strength 26 = .ok (.iaload, 1) := by decide +kernel
theorem dX6_strength_27 : decode cX6_strength 27 = .ok (.aload_n 0, 1) := by decide +kernel
theorem dX6_strength_28 : decode cX6_strength 28 = .ok (.getfield 16, 3) := by decide +kernel
theorem dX6_strength_31 : decode cX6_strength 31 = .ok (.iload_n 1, 1) := by decide +kernel
theorem dX6_strength_32 : decode cX6_strength 32 = .ok (.iaload, 1) := by decide +kernel
theorem dX6_strength_33 : decode cX6_strength 33 = .ok (.aload_n 0, 1) := by decide +kernel
theorem dX6_strength_34 : decode cX6_strength 34 = .ok (.iload_n 2, 1) := by decide +kernel
theorem dX6_strength_35 : decode cX6_strength 35 = .ok (.invokevirtual 156, 3) := by decide +kernel
theorem dX6_strength_38 : decode cX6_strength 38 = .ok (.invokestatic 162, 3) := by decide +kernel
theorem dX6_strength_41 : decode cX6_strength 41 = .ok (.ireturn, 1) := by decide +kernel
theorem dX6_towards_0 : decode cX6_towards 0 = .ok (.aload_n 0, 1) := by decide +kernel
theorem dX6_towards_1 : decode cX6_towards 1 = .ok (.iload_n 1, 1) := by decide +kernel
theorem dX6_towards_2 : decode cX6_towards 2 = .ok (.invokevirtual 166, 3) := by decide +kernel
theorem dX6_towards_5 : decode cX6_towards 5 = .ok (.ifCond .ne 5, 3) := by decide +kernel
theorem dX6_towards_8 : decode cX6_towards 8 = .ok (.iconst 0, 1) := by decide +kernel
theorem dX6_towards_9 : decode cX6_towards 9 = .ok (.ireturn, 1) := by decide +kernel
theorem dX6_towards_10 : decode cX6_towards 10 = .ok (.aload_n 0, 1) := by decide +kernel
theorem dX6_towards_11 : decode cX6_towards 11 = .ok (.aload_n 0, 1) := by decide +kernel
theorem dX6_towards_12 : decode cX6_towards 12 = .ok (.getfield 13, 3) := by decide +kernel
theorem dX6_towards_15 : decode cX6_towards 15 = .ok (.iload_n 1, 1) := by decide +kernel
theorem dX6_towards_16 : decode cX6_towards 16 = .ok (.iaload, 1) := by decide +kernel
theorem dX6_towards_17 : decode cX6_towards 17 = .ok (.invokevirtual 159, 3) := by decide +kernel
theorem dX6_towards_20 : decode cX6_towards 20 = .ok (.istore_n 2, 1) := by decide +kernel
theorem dX6_towards_21 : decode cX6_towards 21 = .ok (.aload_n 0, 1) := by decide +kernel
theorem dX6_towards_22 : decode cX6_towards 22 = .ok (.getfield 19, 3) := by decide +kernel
theorem dX6_towards_25 : decode cX6_towards 25 = .ok (.iload_n 2, 1) := by decide +kernel
theorem dX6_towards_26 : decode cX6_towards 26 = .ok (.iaload, 1) := by decide +kernel
theorem dX6_towards_27 : decode cX6_towards 27 = .ok (.aload_n 0, 1) := by decide +kernel
theorem dX6_towards_28 : decode cX6_towards 28 = .ok (.getfield 61, 3) := by decide +kernel
theorem dX6_towards_31 : decode cX6_towards 31 = .ok (.isub, 1) := by decide +kernel
theorem dX6_towards_32 : decode cX6_towards 32 = .ok (.istore_n 3, 1) := by decide +kernel
theorem dX6_towards_33 : decode cX6_towards 33 = .ok (.aload_n 0, 1) := by decide +kernel
theorem dX6_towards_34 : decode cX6_towards 34 = .ok (.getfield 22, 3) := by decide +kernel
theorem dX6_towards_37 : decode cX6_towards 37 = .ok (.iload_n 2, 1) := by decide +kernel
theorem dX6_towards_38 : decode cX6_towards 38 = .ok (.iaload, 1) := by decide +kernel
theorem dX6_towards_39 : decode cX6_towards 39 = .ok (.aload_n 0, 1) := by decide +kernel
theorem dX6_towards_40 : decode cX6_towards 40 = .ok (.getfield 65, 3) := by decide +kernel
theorem dX6_towards_43 : decode cX6_towards 43 = .ok (.isub, 1) := by decide +kernel
theorem dX6_towards_44 : decode cX6_towards 44 = .ok (.istore 4, 2) := by decide +kernel
theorem dX6_towards_46 : decode cX6_towards 46 = .ok (.iload_n 3, 1) := by decide +kernel
theorem dX6_towards_47 : decode cX6_towards 47 = .ok (.invokestatic 149, 3) := by decide +kernel
theorem dX6_towards_50 : decode cX6_towards 50 = .ok (.iload 4, 2) := by decide +kernel
theorem dX6_towards_52 : decode cX6_towards 52 = .ok (.invokestatic 149, 3) := by decide +kernel
theorem dX6_towards_55 : decode cX6_towards 55 = .ok (.if_icmp .lt 15, 3) := by decide +kernel
theorem dX6_towards_58 : decode cX6_towards 58 = .ok (.iload_n 3, 1) := by decide +kernel
theorem dX6_towards_59 : decode cX6_towards 59 = .ok (.ifCond .le 7, 3) := by decide +kernel
theorem dX6_towards_62 : decode cX6_towards 62 = .ok (.iconst 2, 1) := by decide +kernel
theorem dX6_towards_63 : decode cX6_towards 63 = .ok (.goto 17, 3) := by decide +kernel
theorem dX6_towards_66 : decode cX6_towards 66 = .ok (.iconst 4, 1) := by decide +kernel
theorem dX6_towards_67 : decode cX6_towards 67 = .ok (.goto 13, 3) := by decide +kernel
theorem dX6_towards_70 : decode cX6_towards 70 = .ok (.iload 4, 2) := by decide +kernel
theorem dX6_towards_72 : decode cX6_towards 72 = .ok (.ifCond .le 7, 3) := by decide +kernel
theorem dX6_towards_75 : decode cX6_towards 75 = .ok (.iconst 3, 1) := by decide +kernel
theorem dX6_towards_76 : decode cX6_towards 76 = .ok (.goto 4, 3) := by decide +kernel
theorem dX6_towards_79 : decode cX6_towards 79 = .ok (.iconst 1, 1) := by decide +kernel
theorem dX6_towards_80 : decode cX6_towards 80 = .ok (.ireturn, 1) := by decide +kernel
theorem dX6_pullBy_0 : decode cX6_pullBy 0 = .ok (.aload_n 0, 1) := by decide +kernel
theorem dX6_pullBy_1 : decode cX6_pullBy 1 = .ok (.getfield 71, 3) := by decide +kernel
theorem dX6_pullBy_4 : decode cX6_pullBy 4 = .ok (.iload_n 1, 1) := by decide +kernel
theorem dX6_pullBy_5 : decode cX6_pullBy 5 = .ok (.if_icmp .ne 10, 3) := by decide +kernel
theorem dX6_pullBy_8 : decode cX6_pullBy 8 = .ok (.aload_n 0, 1) := by decide +kernel
theorem dX6_pullBy_9 : decode cX6_pullBy 9 = .ok (.getfield 74, 3) := by decide +kernel
theorem dX6_pullBy_12 : decode cX6_pullBy 12 = .ok (.goto 20, 3) := by decide +kernel
theorem dX6_pullBy_15 : decode cX6_pullBy 15 = .ok (.aload_n 0, 1) := by decide +kernel
theorem dX6_pullBy_16 : decode cX6_pullBy 16 = .ok (.getfield 71, 3) := by decide +kernel
theorem dX6_pullBy_19 : decode cX6_pullBy 19 = .ok (.iload_n 2, 1) := by decide +kernel
theorem dX6_pullBy_20 : decode cX6_pullBy 20 = .ok (.if_icmp .ne 11, 3) := by decide +kernel
theorem dX6_pullBy_23 : decode cX6_pullBy 23 = .ok (.aload_n 0, 1) := by decide +kernel
theorem dX6_pullBy_24 : decode cX6_pullBy 24 = .ok (.getfield 74, 3) := by decide +kernel
theorem dX6_pullBy_27 : decode cX6_pullBy 27 = .ok (.ineg, 1) := by decide +kernel
theorem dX6_pullBy_28 : decode cX6_pullBy 28 = .ok (.goto 4, 3) := by decide +kernel
theorem dX6_pullBy_31 : decode cX6_pullBy 31 = .ok (.iconst 0, 1) := by decide +kernel
theorem dX6_pullBy_32 : decode cX6_pullBy 32 = .ok (.istore_n 3, 1) := by decide +kernel
theorem dX6_pullBy_33 : decode cX6_pullBy 33 = .ok (.iconst 0, 1) := by decide +kernel
theorem dX6_pullBy_34 : decode cX6_pullBy 34 = .ok (.istore 4, 2) := by decide +kernel
theorem dX6_pullBy_36 : decode cX6_pullBy 36 = .ok (.iload 4, 2) := by decide +kernel
theorem dX6_pullBy_38 : decode cX6_pullBy 38 = .ok (.aload_n 0, 1) := by decide +kernel
theorem dX6_pullBy_39 : decode cX6_pullBy 39 = .ok (.getfield 91, 3) := by decide +kernel
theorem dX6_pullBy_42 : decode cX6_pullBy 42 = .ok (.aload_n 0, 1) := by decide +kernel
theorem dX6_pullBy_43 : decode cX6_pullBy 43 = .ok (.getfield 169, 3) := by decide +kernel
theorem dX6_pullBy_46 : decode cX6_pullBy 46 = .ok (.iadd, 1) := by decide +kernel
theorem dX6_pullBy_47 : decode cX6_pullBy 47 = .ok (.if_icmp .ge 52, 3) := by decide +kernel
theorem dX6_pullBy_50 : decode cX6_pullBy 50 = .ok (.aload_n 0, 1) := by decide +kernel
theorem dX6_pullBy_51 : decode cX6_pullBy 51 = .ok (.iload 4, 2) := by decide +kernel
theorem dX6_pullBy_53 : decode cX6_pullBy 53 = .ok (.invokevirtual 172, 3) := by decide +kernel
theorem dX6_pullBy_56 : decode cX6_pullBy 56 = .ok (.istore 5, 2) := by decide +kernel
theorem dX6_pullBy_58 : decode cX6_pullBy 58 = .ok (.iload_n 3, 1) := by decide +kernel
theorem dX6_pullBy_59 : decode cX6_pullBy 59 = .ok (.iload 5, 2) := by decide +kernel
theorem dX6_pullBy_61 : decode cX6_pullBy 61 = .ok (.iload_n 1, 1) := by decide +kernel
theorem dX6_pullBy_62 : decode cX6_pullBy 62 = .ok (.if_icmp .ne 12, 3) := by decide +kernel
theorem dX6_pullBy_65 : decode cX6_pullBy 65 = .ok (.aload_n 0, 1) := by decide +kernel
theorem dX6_pullBy_66 : decode cX6_pullBy 66 = .ok (.iload 4, 2) := by decide +kernel
theorem dX6_pullBy_68 : decode cX6_pullBy 68 = .ok (.invokevirtual 166, 3) := by decide +kernel
theorem dX6_pullBy_71 : decode cX6_pullBy 71 = .ok (.goto 20, 3) := by decide +kernel
theorem dX6_pullBy_74 : decode cX6_pullBy 74 = .ok (.iload 5, 2) := by decide +kernel
theorem dX6_pullBy_76 : decode cX6_pullBy 76 = .ok (.iload_n 2, 1) := by decide +kernel
theorem dX6_pullBy_77 : decode cX6_pullBy 77 = .ok (.if_icmp .ne 13, 3) := by decide +kernel
theorem dX6_pullBy_80 : decode cX6_pullBy 80 = .ok (.aload_n 0, 1) := by decide +kernel
theorem dX6_pullBy_81 : decode cX6_pullBy 81 = .ok (.iload 4, 2) := by decide +kernel
theorem dX6_pullBy_83 : decode cX6_pullBy 83 = .ok (.invokevirtual 166, 3) := by decide +kernel
theorem dX6_pullBy_86 : decode cX6_pullBy 86 = .ok (.ineg, 1) := by decide +kernel
theorem dX6_pullBy_87 : decode cX6_pullBy 87 = .ok (.goto 4, 3) := by decide +kernel
theorem dX6_pullBy_90 : decode cX6_pullBy 90 = .ok (.iconst 0, 1) := by decide +kernel
theorem dX6_pullBy_91 : decode cX6_pullBy 91 = .ok (.iadd, 1) := by decide +kernel
theorem dX6_pullBy_92 : decode cX6_pullBy 92 = .ok (.istore_n 3, 1) := by decide +kernel
theorem dX6_pullBy_93 : decode cX6_pullBy 93 = .ok (.iinc 4 1, 3) := by decide +kernel
theorem dX6_pullBy_96 : decode cX6_pullBy 96 = .ok (.goto (-60), 3) := by decide +kernel
theorem dX6_pullBy_99 : decode cX6_pullBy 99 = .ok (.iload_n 3, 1) := by decide +kernel
theorem dX6_pullBy_100 : decode cX6_pullBy 100 = .ok (.ireturn, 1) := by decide +kernel
theorem dX6_goesTo_0 : decode cX6_goesTo 0 = .ok (.aload_n 0, 1) := by decide +kernel
theorem dX6_goesTo_1 : decode cX6_goesTo 1 = .ok (.iconst 2, 1) := by decide +kernel
theorem dX6_goesTo_2 : decode cX6_goesTo 2 = .ok (.iconst 4, 1) := by decide +kernel
theorem dX6_goesTo_3 : decode cX6_goesTo 3 = .ok (.invokevirtual 175, 3) := by decide +kernel
theorem dX6_goesTo_6 : decode cX6_goesTo 6 = .ok (.istore_n 1, 1) := by decide +kernel
theorem dX6_goesTo_7 : decode cX6_goesTo 7 = .ok (.aload_n 0, 1) := by decide +kernel
theorem dX6_goesTo_8 : decode cX6_goesTo 8 = .ok (.iconst 3, 1) := by decide +kernel
theorem dX6_goesTo_9 : decode cX6_goesTo 9 = .ok (.iconst 1, 1) := by decide +kernel
theorem dX6_goesTo_10 : decode cX6_goesTo 10 = .ok (.invokevirtual 175, 3) := by decide +kernel
theorem dX6_goesTo_13 : decode cX6_goesTo 13 = .ok (.istore_n 2, 1) := by decide +kernel
theorem dX6_goesTo_14 : decode cX6_goesTo 14 = .ok (.iload_n 1, 1) := by decide +kernel
theorem dX6_goesTo_15 : decode cX6_goesTo 15 = .ok (.invokestatic 149, 3) := by decide +kernel
theorem dX6_goesTo_18 : decode cX6_goesTo 18 = .ok (.aload_n 0, 1) := by decide +kernel
theorem dX6_goesTo_19 : decode cX6_goesTo 19 = .ok (.getfield 68, 3) := by decide +kernel
theorem dX6_goesTo_22 : decode cX6_goesTo 22 = .ok (.if_icmp .gt 16, 3) := by decide +kernel
theorem dX6_goesTo_25 : decode cX6_goesTo 25 = .ok (.iload_n 2, 1) := by decide +kernel
theorem dX6_goesTo_26 : decode cX6_goesTo 26 = .ok (.invokestatic 149, 3) := by decide +kernel
theorem dX6_goesTo_29 : decode cX6_goesTo 29 = .ok (.aload_n 0, 1) := by decide +kernel
theorem dX6_goesTo_30 : decode cX6_goesTo 30 = .ok (.getfield 68, 3) := by decide +kernel
theorem dX6_goesTo_33 : decode cX6_goesTo 33 = .ok (.if_icmp .gt 5, 3) := by decide +kernel
theorem dX6_goesTo_36 : decode cX6_goesTo 36 = .ok (.iconst 0, 1) := by decide +kernel
theorem dX6_goesTo_37 : decode cX6_goesTo 37 = .ok (.ireturn, 1) := by decide +kernel
theorem dX6_goesTo_38 : decode cX6_goesTo 38 = .ok (.iload_n 1, 1) := by decide +kernel
theorem dX6_goesTo_39 : decode cX6_goesTo 39 = .ok (.invokestatic 149, 3) := by decide +kernel
theorem dX6_goesTo_42 : decode cX6_goesTo 42 = .ok (.iload_n 2, 1) := by decide +kernel
theorem dX6_goesTo_43 : decode cX6_goesTo 43 = .ok (.invokestatic 149, 3) := by decide +kernel
theorem dX6_goesTo_46 : decode cX6_goesTo 46 = .ok (.if_icmp .lt 15, 3) := by decide +kernel
theorem dX6_goesTo_49 : decode cX6_goesTo 49 = .ok (.iload_n 1, 1) := by decide +kernel
theorem dX6_goesTo_50 : decode cX6_goesTo 50 = .ok (.ifCond .le 7, 3) := by decide +kernel
theorem dX6_goesTo_53 : decode cX6_goesTo 53 = .ok (.iconst 2, 1) := by decide +kernel
theorem dX6_goesTo_54 : decode cX6_goesTo 54 = .ok (.goto 16, 3) := by decide +kernel
theorem dX6_goesTo_57 : decode cX6_goesTo 57 = .ok (.iconst 4, 1) := by decide +kernel
theorem dX6_goesTo_58 : decode cX6_goesTo 58 = .ok (.goto 12, 3) := by decide +kernel
theorem dX6_goesTo_61 : decode cX6_goesTo 61 = .ok (.iload_n 2, 1) := by decide +kernel
theorem dX6_goesTo_62 : decode cX6_goesTo 62 = .ok (.ifCond .le 7, 3) := by decide +kernel
theorem dX6_goesTo_65 : decode cX6_goesTo 65 = .ok (.iconst 3, 1) := by decide +kernel
theorem dX6_goesTo_66 : decode cX6_goesTo 66 = .ok (.goto 4, 3) := by decide +kernel
theorem dX6_goesTo_69 : decode cX6_goesTo 69 = .ok (.iconst 1, 1) := by decide +kernel
theorem dX6_goesTo_70 : decode cX6_goesTo 70 = .ok (.istore_n 3, 1) := by decide +kernel
theorem dX6_goesTo_71 : decode cX6_goesTo 71 = .ok (.aload_n 0, 1) := by decide +kernel
theorem dX6_goesTo_72 : decode cX6_goesTo 72 = .ok (.getfield 61, 3) := by decide +kernel
theorem dX6_goesTo_75 : decode cX6_goesTo 75 = .ok (.iload_n 3, 1) := by decide +kernel
theorem dX6_goesTo_76 : decode cX6_goesTo 76 = .ok (.iconst 2, 1) := by decide +kernel
theorem dX6_goesTo_77 : decode cX6_goesTo 77 = .ok (.if_icmp .ne 7, 3) := by decide +kernel
theorem dX6_goesTo_80 : decode cX6_goesTo 80 = .ok (.iconst 1, 1) := by decide +kernel
theorem dX6_goesTo_81 : decode cX6_goesTo 81 = .ok (.goto 13, 3) := by decide +kernel
theorem dX6_goesTo_84 : decode cX6_goesTo 84 = .ok (.iload_n 3, 1) := by decide +kernel
theorem dX6_goesTo_85 : decode cX6_goesTo 85 = .ok (.iconst 4, 1) := by decide +kernel
theorem dX6_goesTo_86 : decode cX6_goesTo 86 = .ok (.if_icmp .ne 7, 3) := by decide +kernel
theorem dX6_goesTo_89 : decode cX6_goesTo 89 = .ok (.iconst (-1), 1) := by decide +kernel
theorem dX6_goesTo_90 : decode cX6_goesTo 90 = .ok (.goto 4, 3) := by decide +kernel
theorem dX6_goesTo_93 : decode cX6_goesTo 93 = .ok (.iconst 0, 1) := by decide +kernel
theorem dX6_goesTo_94 : decode cX6_goesTo 94 = .ok (.iadd, 1) := by decide +kernel
theorem dX6_goesTo_95 : decode cX6_goesTo 95 = .ok (.istore 4, 2) := by decide +kernel
theorem dX6_goesTo_97 : decode cX6_goesTo 97 = .ok (.aload_n 0, 1) := by decide +kernel
theorem dX6_goesTo_98 : decode cX6_goesTo 98 = .ok (.getfield 65, 3) := by decide +kernel
theorem dX6_goesTo_101 : decode cX6_goesTo 101 = .ok (.iload_n 3, 1) := by decide +kernel
theorem dX6_goesTo_102 : decode cX6_goesTo 102 = .ok (.iconst 3, 1) := by decide +kernel
theorem dX6_goesTo_103 : decode cX6_goesTo 103 = .ok (.if_icmp .ne 7, 3) := by decide +kernel
theorem dX6_goesTo_106 : decode cX6_goesTo 106 = .ok (.iconst 1, 1) := by decide +kernel
theorem dX6_goesTo_107 : decode cX6_goesTo 107 = .ok (.goto 13, 3) := by decide +kernel
theorem dX6_goesTo_110 : decode cX6_goesTo 110 = .ok (.iload_n 3, 1) := by decide +kernel
theorem dX6_goesTo_111 : decode cX6_goesTo 111 = .ok (.iconst 1, 1) := by decide +kernel
theorem dX6_goesTo_112 : decode cX6_goesTo 112 = .ok (.if_icmp .ne 7, 3) := by decide +kernel
theorem dX6_goesTo_115 : decode cX6_goesTo 115 = .ok (.iconst (-1), 1) := by decide +kernel
theorem dX6_goesTo_116 : decode cX6_goesTo 116 = .ok (.goto 4, 3) := by decide +kernel
theorem dX6_goesTo_119 : decode cX6_goesTo 119 = .ok (.iconst 0, 1) := by decide +kernel
theorem dX6_goesTo_120 : decode cX6_goesTo 120 = .ok (.iadd, 1) := by decide +kernel
theorem dX6_goesTo_121 : decode cX6_goesTo 121 = .ok (.istore 5, 2) := by decide +kernel
theorem dX6_goesTo_123 : decode cX6_goesTo 123 = .ok (.iload 4, 2) := by decide +kernel
theorem dX6_goesTo_125 : decode cX6_goesTo 125 = .ok (.iload 5, 2) := by decide +kernel
theorem dX6_goesTo_127 : decode cX6_goesTo 127 = .ok (.invokestatic 179, 3) := by decide +kernel
theorem dX6_goesTo_130 : decode cX6_goesTo 130 = .ok (.ifCond .eq 7, 3) := by decide +kernel
theorem dX6_goesTo_133 : decode cX6_goesTo 133 = .ok (.iload_n 3, 1) := by decide +kernel
theorem dX6_goesTo_134 : decode cX6_goesTo 134 = .ok (.goto 4, 3) := by decide +kernel
theorem dX6_goesTo_137 : decode cX6_goesTo 137 = .ok (.iconst 0, 1) := by decide +kernel
theorem dX6_goesTo_138 : decode cX6_goesTo 138 = .ok (.ireturn, 1) := by decide +kernel
theorem dX6_passes_0 : decode cX6_passes 0 = .ok (.aload_n 0, 1) := by decide +kernel
theorem dX6_passes_1 : decode cX6_passes 1 = .ok (.invokevirtual 183, 3) := by decide +kernel
theorem dX6_passes_4 : decode cX6_passes 4 = .ok (.istore_n 1, 1) := by decide +kernel
theorem dX6_passes_5 : decode cX6_passes 5 = .ok (.aload_n 0, 1) := by decide +kernel
theorem dX6_passes_6 : decode cX6_passes 6 = .ok (.dup, 1) := by decide +kernel
theorem dX6_passes_7 : decode cX6_passes 7 = .ok (.getfield 61, 3) := by decide +kernel
theorem dX6_passes_10 : decode cX6_passes 10 = .ok (.iload_n 1, 1) := by decide +kernel
theorem dX6_passes_11 : decode cX6_passes 11 = .ok (.iconst 2, 1) := by decide +kernel
theorem dX6_passes_12 : decode cX6_passes 12 = .ok (.if_icmp .ne 7, 3) := by decide +kernel
theorem dX6_passes_15 : decode cX6_passes 15 = .ok (.iconst 1, 1) := by decide +kernel
theorem dX6_passes_16 : decode cX6_passes 16 = .ok (.goto 13, 3) := by decide +kernel
theorem dX6_passes_19 : decode cX6_passes 19 = .ok (.iload_n 1, 1) := by decide +kernel
theorem dX6_passes_20 : decode cX6_passes 20 = .ok (.iconst 4, 1) := by decide +kernel
theorem dX6_passes_21 : decode cX6_passes 21 = .ok (.if_icmp .ne 7, 3) := by decide +kernel
theorem dX6_passes_24 : decode cX6_passes 24 = .ok (.iconst (-1), 1) := by decide +kernel
theorem dX6_passes_25 : decode cX6_passes 25 = .ok (.goto 4, 3) := by decide +kernel
theorem dX6_passes_28 : decode cX6_passes 28 = .ok (.iconst 0, 1) := by decide +kernel
theorem dX6_passes_29 : decode cX6_passes 29 = .ok (.iadd, 1) := by decide +kernel
theorem dX6_passes_30 : decode cX6_passes 30 = .ok (.putfield 61, 3) := by decide +kernel
theorem dX6_passes_33 : decode cX6_passes 33 = .ok (.aload_n 0, 1) := by decide +kernel
theorem dX6_passes_34 : decode cX6_passes 34 = .ok (.dup, 1) := by decide +kernel
theorem dX6_passes_35 : decode cX6_passes 35 = .ok (.getfield 65, 3) := by decide +kernel
theorem dX6_passes_38 : decode cX6_passes 38 = .ok (.iload_n 1, 1) := by decide +kernel
theorem dX6_passes_39 : decode cX6_passes 39 = .ok (.iconst 3, 1) := by decide +kernel
theorem dX6_passes_40 : decode cX6_passes 40 = .ok (.if_icmp .ne 7, 3) := by decide +kernel
theorem dX6_passes_43 : decode cX6_passes 43 = .ok (.iconst 1, 1) := by decide +kernel
theorem dX6_passes_44 : decode cX6_passes 44 = .ok (.goto 13, 3) := by decide +kernel
theorem dX6_passes_47 : decode cX6_passes 47 = .ok (.iload_n 1, 1) := by decide +kernel
theorem dX6_passes_48 : decode cX6_passes 48 = .ok (.iconst 1, 1) := by decide +kernel
theorem dX6_passes_49 : decode cX6_passes 49 = .ok (.if_icmp .ne 7, 3) := by decide +kernel
theorem dX6_passes_52 : decode cX6_passes 52 = .ok (.iconst (-1), 1) := by decide +kernel
theorem dX6_passes_53 : decode cX6_passes 53 = .ok (.goto 4, 3) := by decide +kernel
theorem dX6_passes_56 : decode cX6_passes 56 = .ok (.iconst 0, 1) := by decide +kernel
theorem dX6_passes_57 : decode cX6_passes 57 = .ok (.iadd, 1) := by decide +kernel
theorem dX6_passes_58 : decode cX6_passes 58 = .ok (.putfield 65, 3) := by decide +kernel
theorem dX6_passes_61 : decode cX6_passes 61 = .ok (.aload_n 0, 1) := by decide +kernel
theorem dX6_passes_62 : decode cX6_passes 62 = .ok (.dup, 1) := by decide +kernel
theorem dX6_passes_63 : decode cX6_passes 63 = .ok (.getfield 137, 3) := by decide +kernel
theorem dX6_passes_66 : decode cX6_passes 66 = .ok (.iconst 1, 1) := by decide +kernel
theorem dX6_passes_67 : decode cX6_passes 67 = .ok (.iadd, 1) := by decide +kernel
theorem dX6_passes_68 : decode cX6_passes 68 = .ok (.putfield 137, 3) := by decide +kernel
theorem dX6_passes_71 : decode cX6_passes 71 = .ok (.iload_n 1, 1) := by decide +kernel
theorem dX6_passes_72 : decode cX6_passes 72 = .ok (.ifCond .ne 7, 3) := by decide +kernel
theorem dX6_passes_75 : decode cX6_passes 75 = .ok (.iconst 1, 1) := by decide +kernel
theorem dX6_passes_76 : decode cX6_passes 76 = .ok (.goto 4, 3) := by decide +kernel
theorem dX6_passes_79 : decode cX6_passes 79 = .ok (.iconst 0, 1) := by decide +kernel
theorem dX6_passes_80 : decode cX6_passes 80 = .ok (.ireturn, 1) := by decide +kernel
theorem dX6_goesOn_0 : decode cX6_goesOn 0 = .ok (.iconst 0, 1) := by decide +kernel
theorem dX6_goesOn_1 : decode cX6_goesOn 1 = .ok (.istore_n 2, 1) := by decide +kernel
theorem dX6_goesOn_2 : decode cX6_goesOn 2 = .ok (.iload_n 2, 1) := by decide +kernel
theorem dX6_goesOn_3 : decode cX6_goesOn 3 = .ok (.iload_n 1, 1) := by decide +kernel
theorem dX6_goesOn_4 : decode cX6_goesOn 4 = .ok (.if_icmp .ge 14, 3) := by decide +kernel
theorem dX6_goesOn_7 : decode cX6_goesOn 7 = .ok (.aload_n 0, 1) := by decide +kernel
theorem dX6_goesOn_8 : decode cX6_goesOn 8 = .ok (.invokevirtual 186, 3) := by decide +kernel
theorem dX6_goesOn_11 : decode cX6_goesOn 11 = .ok (.pop, 1) := by decide +kernel
theorem dX6_goesOn_12 : decode cX6_goesOn 12 = .ok (.iinc 2 1, 3) := by decide +kernel
theorem dX6_goesOn_15 : decode cX6_goesOn 15 = .ok (.goto (-13), 3) := by decide +kernel
theorem dX6_goesOn_18 : decode cX6_goesOn 18 = .ok (.return_, 1) := by decide +kernel
theorem dX6_post_0 : decode cX6_post 0 = .ok (.aload_n 0, 1) := by decide +kernel
theorem dX6_post_1 : decode cX6_post 1 = .ok (.iload_n 1, 1) := by decide +kernel
theorem dX6_post_2 : decode cX6_post 2 = .ok (.invokevirtual 189, 3) := by decide +kernel
theorem dX6_post_5 : decode cX6_post 5 = .ok (.ifCond .eq 12, 3) := by decide +kernel
theorem dX6_post_8 : decode cX6_post 8 = .ok (.iload_n 2, 1) := by decide +kernel
theorem dX6_post_9 : decode cX6_post 9 = .ok (.iconst 0, 1) := by decide +kernel
theorem dX6_post_10 : decode cX6_post 10 = .ok (.iconst 3, 1) := by decide +kernel
theorem dX6_post_11 : decode cX6_post 11 = .ok (.invokestatic 94, 3) := by decide +kernel
theorem dX6_post_14 : decode cX6_post 14 = .ok (.ifCond .ne 5, 3) := by decide +kernel
theorem dX6_post_17 : decode cX6_post 17 = .ok (.iconst (-1), 1) := by decide +kernel
theorem dX6_post_18 : decode cX6_post 18 = .ok (.ireturn, 1) := by decide +kernel
theorem dX6_post_19 : decode cX6_post 19 = .ok (.iload_n 2, 1) := by decide +kernel
theorem dX6_post_20 : decode cX6_post 20 = .ok (.ifCond .ne 12, 3) := by decide +kernel
theorem dX6_post_23 : decode cX6_post 23 = .ok (.aload_n 0, 1) := by decide +kernel
theorem dX6_post_24 : decode cX6_post 24 = .ok (.getfield 19, 3) := by decide +kernel
theorem dX6_post_27 : decode cX6_post 27 = .ok (.iload_n 1, 1) := by decide +kernel
theorem dX6_post_28 : decode cX6_post 28 = .ok (.iaload, 1) := by decide +kernel
theorem dX6_post_29 : decode cX6_post 29 = .ok (.goto 37, 3) := by decide +kernel
theorem dX6_post_32 : decode cX6_post 32 = .ok (.iload_n 2, 1) := by decide +kernel
theorem dX6_post_33 : decode cX6_post 33 = .ok (.iconst 1, 1) := by decide +kernel
theorem dX6_post_34 : decode cX6_post 34 = .ok (.if_icmp .ne 12, 3) := by decide +kernel
theorem dX6_post_37 : decode cX6_post 37 = .ok (.aload_n 0, 1) := by decide +kernel
theorem dX6_post_38 : decode cX6_post 38 = .ok (.getfield 22, 3) := by decide +kernel
theorem dX6_post_41 : decode cX6_post 41 = .ok (.iload_n 1, 1) := by decide +kernel
theorem dX6_post_42 : decode cX6_post 42 = .ok (.iaload, 1) := by decide +kernel
theorem dX6_post_43 : decode cX6_post 43 = .ok (.goto 23, 3) := by decide +kernel
theorem dX6_post_46 : decode cX6_post 46 = .ok (.iload_n 2, 1) := by decide +kernel
theorem dX6_post_47 : decode cX6_post 47 = .ok (.iconst 2, 1) := by decide +kernel
theorem dX6_post_48 : decode cX6_post 48 = .ok (.if_icmp .ne 12, 3) := by decide +kernel
theorem dX6_post_51 : decode cX6_post 51 = .ok (.aload_n 0, 1) := by decide +kernel
theorem dX6_post_52 : decode cX6_post 52 = .ok (.getfield 25, 3) := by decide +kernel
theorem dX6_post_55 : decode cX6_post 55 = .ok (.iload_n 1, 1) := by decide +kernel
theorem dX6_post_56 : decode cX6_post 56 = .ok (.iaload, 1) := by decide +kernel
theorem dX6_post_57 : decode cX6_post 57 = .ok (.goto 9, 3) := by decide +kernel
theorem dX6_post_60 : decode cX6_post 60 = .ok (.aload_n 0, 1) := by decide +kernel
theorem dX6_post_61 : decode cX6_post 61 = .ok (.getfield 28, 3) := by decide +kernel
theorem dX6_post_64 : decode cX6_post 64 = .ok (.iload_n 1, 1) := by decide +kernel
theorem dX6_post_65 : decode cX6_post 65 = .ok (.iaload, 1) := by decide +kernel
theorem dX6_post_66 : decode cX6_post 66 = .ok (.ireturn, 1) := by decide +kernel
theorem dX6_crew_0 : decode cX6_crew 0 = .ok (.aload_n 0, 1) := by decide +kernel
theorem dX6_crew_1 : decode cX6_crew 1 = .ok (.iload_n 1, 1) := by decide +kernel
theorem dX6_crew_2 : decode cX6_crew 2 = .ok (.invokevirtual 193, 3) := by decide +kernel
theorem dX6_crew_5 : decode cX6_crew 5 = .ok (.ifCond .eq 12, 3) := by decide +kernel
theorem dX6_crew_8 : decode cX6_crew 8 = .ok (.iload_n 2, 1) := by decide +kernel
theorem dX6_crew_9 : decode cX6_crew 9 = .ok (.iconst 0, 1) := by decide +kernel
theorem dX6_crew_10 : decode cX6_crew 10 = .ok (.iconst 5, 1) := by decide +kernel
theorem dX6_crew_11 : decode cX6_crew 11 = .ok (.invokestatic 94, 3) := by decide +kernel
theorem dX6_crew_14 : decode cX6_crew 14 = .ok (.ifCond .ne 5, 3) := by decide +kernel
theorem dX6_crew_17 : decode cX6_crew 17 = .ok (.iconst (-1), 1) := by decide +kernel
theorem dX6_crew_18 : decode cX6_crew 18 = .ok (.ireturn, 1) := by decide +kernel
theorem dX6_crew_19 : decode cX6_crew 19 = .ok (.iload_n 2, 1) := by decide +kernel
theorem dX6_crew_20 : decode cX6_crew 20 = .ok (.tableswitch 74 0 4 #[36, 43, 50, 57, 68], 36) := by decide +kernel
theorem dX6_crew_56 : decode cX6_crew 56 = .ok (.aload_n 0, 1) := by decide +kernel
theorem dX6_crew_57 : decode cX6_crew 57 = .ok (.getfield 9, 3) := by decide +kernel
theorem dX6_crew_60 : decode cX6_crew 60 = .ok (.iload_n 1, 1) := by decide +kernel
theorem dX6_crew_61 : decode cX6_crew 61 = .ok (.iaload, 1) := by decide +kernel
theorem dX6_crew_62 : decode cX6_crew 62 = .ok (.ireturn, 1) := by decide +kernel
theorem dX6_crew_63 : decode cX6_crew 63 = .ok (.aload_n 0, 1) := by decide +kernel
theorem dX6_crew_64 : decode cX6_crew 64 = .ok (.getfield 13, 3) := by decide +kernel
theorem dX6_crew_67 : decode cX6_crew 67 = .ok (.iload_n 1, 1) := by decide +kernel
theorem dX6_crew_68 : decode cX6_crew 68 = .ok (.iaload, 1) := by decide +kernel
theorem dX6_crew_69 : decode cX6_crew 69 = .ok (.ireturn, 1) := by decide +kernel
theorem dX6_crew_70 : decode cX6_crew 70 = .ok (.aload_n 0, 1) := by decide +kernel
theorem dX6_crew_71 : decode cX6_crew 71 = .ok (.getfield 16, 3) := by decide +kernel
theorem dX6_crew_74 : decode cX6_crew 74 = .ok (.iload_n 1, 1) := by decide +kernel
theorem dX6_crew_75 : decode cX6_crew 75 = .ok (.iaload, 1) := by decide +kernel
theorem dX6_crew_76 : decode cX6_crew 76 = .ok (.ireturn, 1) := by decide +kernel
theorem dX6_crew_77 : decode cX6_crew 77 = .ok (.aload_n 0, 1) := by decide +kernel
theorem dX6_crew_78 : decode cX6_crew 78 = .ok (.aload_n 0, 1) := by decide +kernel
theorem dX6_crew_79 : decode cX6_crew 79 = .ok (.getfield 13, 3) := by decide +kernel
theorem dX6_crew_82 : decode cX6_crew 82 = .ok (.iload_n 1, 1) := by decide +kernel
theorem dX6_crew_83 : decode cX6_crew 83 = .ok (.iaload, 1) := by decide +kernel
theorem dX6_crew_84 : decode cX6_crew 84 = .ok (.invokevirtual 159, 3) := by decide +kernel
theorem dX6_crew_87 : decode cX6_crew 87 = .ok (.ireturn, 1) := by decide +kernel
theorem dX6_crew_88 : decode cX6_crew 88 = .ok (.aload_n 0, 1) := by decide +kernel
theorem dX6_crew_89 : decode cX6_crew 89 = .ok (.iload_n 1, 1) := by decide +kernel
theorem dX6_crew_90 : decode cX6_crew 90 = .ok (.invokevirtual 166, 3) := by decide +kernel
theorem dX6_crew_93 : decode cX6_crew 93 = .ok (.ireturn, 1) := by decide +kernel
theorem dX6_crew_94 : decode cX6_crew 94 = .ok (.aload_n 0, 1) := by decide +kernel
theorem dX6_crew_95 : decode cX6_crew 95 = .ok (.iload_n 1, 1) := by decide +kernel
theorem dX6_crew_96 : decode cX6_crew 96 = .ok (.invokevirtual 172, 3) := by decide +kernel
theorem dX6_crew_99 : decode cX6_crew 99 = .ok (.ireturn, 1) := by decide +kernel
theorem dX6_pull_0 : decode cX6_pull 0 = .ok (.iload_n 1, 1) := by decide +kernel
theorem dX6_pull_1 : decode cX6_pull 1 = .ok (.iconst 0, 1) := by decide +kernel
theorem dX6_pull_2 : decode cX6_pull 2 = .ok (.iconst 2, 1) := by decide +kernel
theorem dX6_pull_3 : decode cX6_pull 3 = .ok (.invokestatic 94, 3) := by decide +kernel
theorem dX6_pull_6 : decode cX6_pull 6 = .ok (.ifCond .ne 5, 3) := by decide +kernel
theorem dX6_pull_9 : decode cX6_pull 9 = .ok (.iconst (-1), 1) := by decide +kernel
theorem dX6_pull_10 : decode cX6_pull 10 = .ok (.ireturn, 1) := by decide +kernel
theorem dX6_pull_11 : decode cX6_pull 11 = .ok (.iload_n 1, 1) := by decide +kernel
theorem dX6_pull_12 : decode cX6_pull 12 = .ok (.ifCond .ne 16, 3) := by decide +kernel
theorem dX6_pull_15 : decode cX6_pull 15 = .ok (.aload_n 0, 1) := by decide +kernel
theorem dX6_pull_16 : decode cX6_pull 16 = .ok (.iconst 2, 1) := by decide +kernel
theorem dX6_pull_17 : decode cX6_pull 17 = .ok (.iconst 4, 1) := by decide +kernel
theorem dX6_pull_18 : decode cX6_pull 18 = .ok (.invokevirtual 175, 3) := by decide +kernel
theorem dX6_pull_21 : decode cX6_pull 21 = .ok (.sipush 500, 3) := by decide +kernel
theorem dX6_pull_24 : decode cX6_pull 24 = .ok (.iadd, 1) := by decide +kernel
theorem dX6_pull_25 : decode cX6_pull 25 = .ok (.goto 25, 3) := by decide +kernel
theorem dX6_pull_28 : decode cX6_pull 28 = .ok (.iload_n 1, 1) := by decide +kernel
theorem dX6_pull_29 : decode cX6_pull 29 = .ok (.iconst 1, 1) := by decide +kernel
theorem dX6_pull_30 : decode cX6_pull 30 = .ok (.if_icmp .ne 16, 3) := by decide +kernel
theorem dX6_pull_33 : decode cX6_pull 33 = .ok (.aload_n 0, 1) := by decide +kernel
theorem dX6_pull_34 : decode cX6_pull 34 = .ok (.iconst 3, 1) := by decide +kernel
theorem dX6_pull_35 : decode cX6_pull 35 = .ok (.iconst 1, 1) := by decide +kernel
theorem dX6_pull_36 : decode cX6_pull 36 = .ok (.invokevirtual 175, 3) := by decide +kernel
theorem dX6_pull_39 : decode cX6_pull 39 = .ok (.sipush 500, 3) := by decide +kernel
theorem dX6_pull_42 : decode cX6_pull 42 = .ok (.iadd, 1) := by decide +kernel
theorem dX6_pull_43 : decode cX6_pull 43 = .ok (.goto 7, 3) := by decide +kernel
theorem dX6_pull_46 : decode cX6_pull 46 = .ok (.aload_n 0, 1) := by decide +kernel
theorem dX6_pull_47 : decode cX6_pull 47 = .ok (.invokevirtual 183, 3) := by decide +kernel
theorem dX6_pull_50 : decode cX6_pull 50 = .ok (.ireturn, 1) := by decide +kernel
theorem dX6_lays_0 : decode cX6_lays 0 = .ok (.aload_n 1, 1) := by decide +kernel
theorem dX6_lays_1 : decode cX6_lays 1 = .ok (.iload_n 2, 1) := by decide +kernel
theorem dX6_lays_2 : decode cX6_lays 2 = .ok (.aload_n 0, 1) := by decide +kernel
theorem dX6_lays_3 : decode cX6_lays 3 = .ok (.getfield 137, 3) := by decide +kernel
theorem dX6_lays_6 : decode cX6_lays 6 = .ok (.iastore, 1) := by decide +kernel
theorem dX6_lays_7 : decode cX6_lays 7 = .ok (.aload_n 1, 1) := by decide +kernel
theorem dX6_lays_8 : decode cX6_lays 8 = .ok (.iload_n 2, 1) := by decide +kernel
theorem dX6_lays_9 : decode cX6_lays 9 = .ok (.iconst 1, 1) := by decide +kernel
theorem dX6_lays_10 : decode cX6_lays 10 = .ok (.iadd, 1) := by decide +kernel
theorem dX6_lays_11 : decode cX6_lays 11 = .ok (.aload_n 0, 1) := by decide +kernel
theorem dX6_lays_12 : decode cX6_lays 12 = .ok (.getfield 61, 3) := by decide +kernel
theorem dX6_lays_15 : decode cX6_lays 15 = .ok (.iastore, 1) := by decide +kernel
theorem dX6_lays_16 : decode cX6_lays 16 = .ok (.aload_n 1, 1) := by decide +kernel
theorem dX6_lays_17 : decode cX6_lays 17 = .ok (.iload_n 2, 1) := by decide +kernel
theorem dX6_lays_18 : decode cX6_lays 18 = .ok (.iconst 2, 1) := by decide +kernel
theorem dX6_lays_19 : decode cX6_lays 19 = .ok (.iadd, 1) := by decide +kernel
theorem dX6_lays_20 : decode cX6_lays 20 = .ok (.aload_n 0, 1) := by decide +kernel
theorem dX6_lays_21 : decode cX6_lays 21 = .ok (.getfield 65, 3) := by decide +kernel
theorem dX6_lays_24 : decode cX6_lays 24 = .ok (.iastore, 1) := by decide +kernel
theorem dX6_lays_25 : decode cX6_lays 25 = .ok (.aload_n 1, 1) := by decide +kernel
theorem dX6_lays_26 : decode cX6_lays 26 = .ok (.iload_n 2, 1) := by decide +kernel
theorem dX6_lays_27 : decode cX6_lays 27 = .ok (.iconst 3, 1) := by decide +kernel
theorem dX6_lays_28 : decode cX6_lays 28 = .ok (.iadd, 1) := by decide +kernel
theorem dX6_lays_29 : decode cX6_lays 29 = .ok (.aload_n 0, 1) := by decide +kernel
theorem dX6_lays_30 : decode cX6_lays 30 = .ok (.getfield 71, 3) := by decide +kernel
theorem dX6_lays_33 : decode cX6_lays 33 = .ok (.iastore, 1) := by decide +kernel
theorem dX6_lays_34 : decode cX6_lays 34 = .ok (.aload_n 1, 1) := by decide +kernel
theorem dX6_lays_35 : decode cX6_lays 35 = .ok (.iload_n 2, 1) := by decide +kernel
theorem dX6_lays_36 : decode cX6_lays 36 = .ok (.iconst 4, 1) := by decide +kernel
theorem dX6_lays_37 : decode cX6_lays 37 = .ok (.iadd, 1) := by decide +kernel
theorem dX6_lays_38 : decode cX6_lays 38 = .ok (.aload_n 0, 1) := by decide +kernel
theorem dX6_lays_39 : decode cX6_lays 39 = .ok (.getfield 74, 3) := by decide +kernel
theorem dX6_lays_42 : decode cX6_lays 42 = .ok (.iastore, 1) := by decide +kernel
theorem dX6_lays_43 : decode cX6_lays 43 = .ok (.iconst 0, 1) := by decide +kernel
theorem dX6_lays_44 : decode cX6_lays 44 = .ok (.istore_n 3, 1) := by decide +kernel
theorem dX6_lays_45 : decode cX6_lays 45 = .ok (.iload_n 3, 1) := by decide +kernel
theorem dX6_lays_46 : decode cX6_lays 46 = .ok (.bipush 6, 2) := by decide +kernel
theorem dX6_lays_48 : decode cX6_lays 48 = .ok (.if_icmp .ge 64, 3) := by decide +kernel
theorem dX6_lays_51 : decode cX6_lays 51 = .ok (.aload_n 1, 1) := by decide +kernel
theorem dX6_lays_52 : decode cX6_lays 52 = .ok (.iload_n 2, 1) := by decide +kernel
theorem dX6_lays_53 : decode cX6_lays 53 = .ok (.iconst 5, 1) := by decide +kernel
theorem dX6_lays_54 : decode cX6_lays 54 = .ok (.iadd, 1) := by decide +kernel
theorem dX6_lays_55 : decode cX6_lays 55 = .ok (.iload_n 3, 1) := by decide +kernel
theorem dX6_lays_56 : decode cX6_lays 56 = .ok (.iadd, 1) := by decide +kernel
theorem dX6_lays_57 : decode cX6_lays 57 = .ok (.aload_n 0, 1) := by decide +kernel
theorem dX6_lays_58 : decode cX6_lays 58 = .ok (.getfield 19, 3) := by decide +kernel
theorem dX6_lays_61 : decode cX6_lays 61 = .ok (.iload_n 3, 1) := by decide +kernel
theorem dX6_lays_62 : decode cX6_lays 62 = .ok (.iaload, 1) := by decide +kernel
theorem dX6_lays_63 : decode cX6_lays 63 = .ok (.iastore, 1) := by decide +kernel
theorem dX6_lays_64 : decode cX6_lays 64 = .ok (.aload_n 1, 1) := by decide +kernel
theorem dX6_lays_65 : decode cX6_lays 65 = .ok (.iload_n 2, 1) := by decide +kernel
theorem dX6_lays_66 : decode cX6_lays 66 = .ok (.bipush 11, 2) := by decide +kernel
theorem dX6_lays_68 : decode cX6_lays 68 = .ok (.iadd, 1) := by decide +kernel
theorem dX6_lays_69 : decode cX6_lays 69 = .ok (.iload_n 3, 1) := by decide +kernel
theorem dX6_lays_70 : decode cX6_lays 70 = .ok (.iadd, 1) := by decide +kernel
theorem dX6_lays_71 : decode cX6_lays 71 = .ok (.aload_n 0, 1) := by decide +kernel
theorem dX6_lays_72 : decode cX6_lays 72 = .ok (.getfield 22, 3) := by decide +kernel
theorem dX6_lays_75 : decode cX6_lays 75 = .ok (.iload_n 3, 1) := by decide +kernel
theorem dX6_lays_76 : decode cX6_lays 76 = .ok (.iaload, 1) := by decide +kernel
theorem dX6_lays_77 : decode cX6_lays 77 = .ok (.iastore, 1) := by decide +kernel
theorem dX6_lays_78 : decode cX6_lays 78 = .ok (.aload_n 1, 1) := by decide +kernel
theorem dX6_lays_79 : decode cX6_lays 79 = .ok (.iload_n 2, 1) := by decide +kernel
theorem dX6_lays_80 : decode cX6_lays 80 = .ok (.bipush 17, 2) := by decide +kernel
theorem dX6_lays_82 : decode cX6_lays 82 = .ok (.iadd, 1) := by decide +kernel
theorem dX6_lays_83 : decode cX6_lays 83 = .ok (.iload_n 3, 1) := by decide +kernel
theorem dX6_lays_84 : decode cX6_lays 84 = .ok (.iadd, 1) := by decide +kernel
theorem dX6_lays_85 : decode cX6_lays 85 = .ok (.aload_n 0, 1) := by decide +kernel
theorem dX6_lays_86 : decode cX6_lays 86 = .ok (.getfield 25, 3) := by decide +kernel
theorem dX6_lays_89 : decode cX6_lays 89 = .ok (.iload_n 3, 1) := by decide +kernel
theorem dX6_lays_90 : decode cX6_lays 90 = .ok (.iaload, 1) := by decide +kernel
theorem dX6_lays_91 : decode cX6_lays 91 = .ok (.iastore, 1) := by decide +kernel
theorem dX6_lays_92 : decode cX6_lays 92 = .ok (.aload_n 1, 1) := by decide +kernel
theorem dX6_lays_93 : decode cX6_lays 93 = .ok (.iload_n 2, 1) := by decide +kernel
theorem dX6_lays_94 : decode cX6_lays 94 = .ok (.bipush 23, 2) := by decide +kernel
theorem dX6_lays_96 : decode cX6_lays 96 = .ok (.iadd, 1) := by decide +kernel
theorem dX6_lays_97 : decode cX6_lays 97 = .ok (.iload_n 3, 1) := by decide +kernel
theorem dX6_lays_98 : decode cX6_lays 98 = .ok (.iadd, 1) := by decide +kernel
theorem dX6_lays_99 : decode cX6_lays 99 = .ok (.aload_n 0, 1) := by decide +kernel
theorem dX6_lays_100 : decode cX6_lays 100 = .ok (.getfield 28, 3) := by decide +kernel
theorem dX6_lays_103 : decode cX6_lays 103 = .ok (.iload_n 3, 1) := by decide +kernel
theorem dX6_lays_104 : decode cX6_lays 104 = .ok (.iaload, 1) := by decide +kernel
theorem dX6_lays_105 : decode cX6_lays 105 = .ok (.iastore, 1) := by decide +kernel
theorem dX6_lays_106 : decode cX6_lays 106 = .ok (.iinc 3 1, 3) := by decide +kernel
theorem dX6_lays_109 : decode cX6_lays 109 = .ok (.goto (-64), 3) := by decide +kernel
theorem dX6_lays_112 : decode cX6_lays 112 = .ok (.return_, 1) := by decide +kernel
theorem dX6_takes_0 : decode cX6_takes 0 = .ok (.aload_n 0, 1) := by decide +kernel
theorem dX6_takes_1 : decode cX6_takes 1 = .ok (.aload_n 1, 1) := by decide +kernel
theorem dX6_takes_2 : decode cX6_takes 2 = .ok (.iload_n 2, 1) := by decide +kernel
theorem dX6_takes_3 : decode cX6_takes 3 = .ok (.iaload, 1) := by decide +kernel
theorem dX6_takes_4 : decode cX6_takes 4 = .ok (.putfield 137, 3) := by decide +kernel
theorem dX6_takes_7 : decode cX6_takes 7 = .ok (.aload_n 0, 1) := by decide +kernel
theorem dX6_takes_8 : decode cX6_takes 8 = .ok (.aload_n 1, 1) := by decide +kernel
theorem dX6_takes_9 : decode cX6_takes 9 = .ok (.iload_n 2, 1) := by decide +kernel
theorem dX6_takes_10 : decode cX6_takes 10 = .ok (.iconst 1, 1) := by decide +kernel
theorem dX6_takes_11 : decode cX6_takes 11 = .ok (.iadd, 1) := by decide +kernel
theorem dX6_takes_12 : decode cX6_takes 12 = .ok (.iaload, 1) := by decide +kernel
theorem dX6_takes_13 : decode cX6_takes 13 = .ok (.putfield 61, 3) := by decide +kernel
theorem dX6_takes_16 : decode cX6_takes 16 = .ok (.aload_n 0, 1) := by decide +kernel
theorem dX6_takes_17 : decode cX6_takes 17 = .ok (.aload_n 1, 1) := by decide +kernel
theorem dX6_takes_18 : decode cX6_takes 18 = .ok (.iload_n 2, 1) := by decide +kernel
theorem dX6_takes_19 : decode cX6_takes 19 = .ok (.iconst 2, 1) := by decide +kernel
theorem dX6_takes_20 : decode cX6_takes 20 = .ok (.iadd, 1) := by decide +kernel
theorem dX6_takes_21 : decode cX6_takes 21 = .ok (.iaload, 1) := by decide +kernel
theorem dX6_takes_22 : decode cX6_takes 22 = .ok (.putfield 65, 3) := by decide +kernel
theorem dX6_takes_25 : decode cX6_takes 25 = .ok (.aload_n 0, 1) := by decide +kernel
theorem dX6_takes_26 : decode cX6_takes 26 = .ok (.aload_n 1, 1) := by decide +kernel
theorem dX6_takes_27 : decode cX6_takes 27 = .ok (.iload_n 2, 1) := by decide +kernel
theorem dX6_takes_28 : decode cX6_takes 28 = .ok (.iconst 3, 1) := by decide +kernel
theorem dX6_takes_29 : decode cX6_takes 29 = .ok (.iadd, 1) := by decide +kernel
theorem dX6_takes_30 : decode cX6_takes 30 = .ok (.iaload, 1) := by decide +kernel
theorem dX6_takes_31 : decode cX6_takes 31 = .ok (.putfield 71, 3) := by decide +kernel
theorem dX6_takes_34 : decode cX6_takes 34 = .ok (.aload_n 0, 1) := by decide +kernel
theorem dX6_takes_35 : decode cX6_takes 35 = .ok (.aload_n 1, 1) := by decide +kernel
theorem dX6_takes_36 : decode cX6_takes 36 = .ok (.iload_n 2, 1) := by decide +kernel
theorem dX6_takes_37 : decode cX6_takes 37 = .ok (.iconst 4, 1) := by decide +kernel
theorem dX6_takes_38 : decode cX6_takes 38 = .ok (.iadd, 1) := by decide +kernel
theorem dX6_takes_39 : decode cX6_takes 39 = .ok (.iaload, 1) := by decide +kernel
theorem dX6_takes_40 : decode cX6_takes 40 = .ok (.putfield 74, 3) := by decide +kernel
theorem dX6_takes_43 : decode cX6_takes 43 = .ok (.iconst 0, 1) := by decide +kernel
theorem dX6_takes_44 : decode cX6_takes 44 = .ok (.istore_n 3, 1) := by decide +kernel
theorem dX6_takes_45 : decode cX6_takes 45 = .ok (.iload_n 3, 1) := by decide +kernel
theorem dX6_takes_46 : decode cX6_takes 46 = .ok (.bipush 6, 2) := by decide +kernel
theorem dX6_takes_48 : decode cX6_takes 48 = .ok (.if_icmp .ge 64, 3) := by decide +kernel
theorem dX6_takes_51 : decode cX6_takes 51 = .ok (.aload_n 0, 1) := by decide +kernel
theorem dX6_takes_52 : decode cX6_takes 52 = .ok (.getfield 19, 3) := by decide +kernel
theorem dX6_takes_55 : decode cX6_takes 55 = .ok (.iload_n 3, 1) := by decide +kernel
theorem dX6_takes_56 : decode cX6_takes 56 = .ok (.aload_n 1, 1) := by decide +kernel
theorem dX6_takes_57 : decode cX6_takes 57 = .ok (.iload_n 2, 1) := by decide +kernel
theorem dX6_takes_58 : decode cX6_takes 58 = .ok (.iconst 5, 1) := by decide +kernel
theorem dX6_takes_59 : decode cX6_takes 59 = .ok (.iadd, 1) := by decide +kernel
theorem dX6_takes_60 : decode cX6_takes 60 = .ok (.iload_n 3, 1) := by decide +kernel
theorem dX6_takes_61 : decode cX6_takes 61 = .ok (.iadd, 1) := by decide +kernel
theorem dX6_takes_62 : decode cX6_takes 62 = .ok (.iaload, 1) := by decide +kernel
theorem dX6_takes_63 : decode cX6_takes 63 = .ok (.iastore, 1) := by decide +kernel
theorem dX6_takes_64 : decode cX6_takes 64 = .ok (.aload_n 0, 1) := by decide +kernel
theorem dX6_takes_65 : decode cX6_takes 65 = .ok (.getfield 22, 3) := by decide +kernel
theorem dX6_takes_68 : decode cX6_takes 68 = .ok (.iload_n 3, 1) := by decide +kernel
theorem dX6_takes_69 : decode cX6_takes 69 = .ok (.aload_n 1, 1) := by decide +kernel
theorem dX6_takes_70 : decode cX6_takes 70 = .ok (.iload_n 2, 1) := by decide +kernel
theorem dX6_takes_71 : decode cX6_takes 71 = .ok (.bipush 11, 2) := by decide +kernel
theorem dX6_takes_73 : decode cX6_takes 73 = .ok (.iadd, 1) := by decide +kernel
theorem dX6_takes_74 : decode cX6_takes 74 = .ok (.iload_n 3, 1) := by decide +kernel
theorem dX6_takes_75 : decode cX6_takes 75 = .ok (.iadd, 1) := by decide +kernel
theorem dX6_takes_76 : decode cX6_takes 76 = .ok (.iaload, 1) := by decide +kernel
theorem dX6_takes_77 : decode cX6_takes 77 = .ok (.iastore, 1) := by decide +kernel
theorem dX6_takes_78 : decode cX6_takes 78 = .ok (.aload_n 0, 1) := by decide +kernel
theorem dX6_takes_79 : decode cX6_takes 79 = .ok (.getfield 25, 3) := by decide +kernel
theorem dX6_takes_82 : decode cX6_takes 82 = .ok (.iload_n 3, 1) := by decide +kernel
theorem dX6_takes_83 : decode cX6_takes 83 = .ok (.aload_n 1, 1) := by decide +kernel
theorem dX6_takes_84 : decode cX6_takes 84 = .ok (.iload_n 2, 1) := by decide +kernel
theorem dX6_takes_85 : decode cX6_takes 85 = .ok (.bipush 17, 2) := by decide +kernel
theorem dX6_takes_87 : decode cX6_takes 87 = .ok (.iadd, 1) := by decide +kernel
theorem dX6_takes_88 : decode cX6_takes 88 = .ok (.iload_n 3, 1) := by decide +kernel
theorem dX6_takes_89 : decode cX6_takes 89 = .ok (.iadd, 1) := by decide +kernel
theorem dX6_takes_90 : decode cX6_takes 90 = .ok (.iaload, 1) := by decide +kernel
theorem dX6_takes_91 : decode cX6_takes 91 = .ok (.iastore, 1) := by decide +kernel
theorem dX6_takes_92 : decode cX6_takes 92 = .ok (.aload_n 0, 1) := by decide +kernel
theorem dX6_takes_93 : decode cX6_takes 93 = .ok (.getfield 28, 3) := by decide +kernel
theorem dX6_takes_96 : decode cX6_takes 96 = .ok (.iload_n 3, 1) := by decide +kernel
theorem dX6_takes_97 : decode cX6_takes 97 = .ok (.aload_n 1, 1) := by decide +kernel
theorem dX6_takes_98 : decode cX6_takes 98 = .ok (.iload_n 2, 1) := by decide +kernel
theorem dX6_takes_99 : decode cX6_takes 99 = .ok (.bipush 23, 2) := by decide +kernel
theorem dX6_takes_101 : decode cX6_takes 101 = .ok (.iadd, 1) := by decide +kernel
theorem dX6_takes_102 : decode cX6_takes 102 = .ok (.iload_n 3, 1) := by decide +kernel
theorem dX6_takes_103 : decode cX6_takes 103 = .ok (.iadd, 1) := by decide +kernel
theorem dX6_takes_104 : decode cX6_takes 104 = .ok (.iaload, 1) := by decide +kernel
theorem dX6_takes_105 : decode cX6_takes 105 = .ok (.iastore, 1) := by decide +kernel
theorem dX6_takes_106 : decode cX6_takes 106 = .ok (.iinc 3 1, 3) := by decide +kernel
theorem dX6_takes_109 : decode cX6_takes 109 = .ok (.goto (-64), 3) := by decide +kernel
theorem dX6_takes_112 : decode cX6_takes 112 = .ok (.return_, 1) := by decide +kernel
theorem dX6_notes_0 : decode cX6_notes 0 = .ok (.aload_n 0, 1) := by decide +kernel
theorem dX6_notes_1 : decode cX6_notes 1 = .ok (.getfield 143, 3) := by decide +kernel
theorem dX6_notes_4 : decode cX6_notes 4 = .ok (.bipush 8, 2) := by decide +kernel
theorem dX6_notes_6 : decode cX6_notes 6 = .ok (.if_icmp .ne 43, 3) := by decide +kernel
theorem dX6_notes_9 : decode cX6_notes 9 = .ok (.iconst 0, 1) := by decide +kernel
theorem dX6_notes_10 : decode cX6_notes 10 = .ok (.istore_n 1, 1) := by decide +kernel
theorem dX6_notes_11 : decode cX6_notes 11 = .ok (.iload_n 1, 1) := by decide +kernel
theorem dX6_notes_12 : decode cX6_notes 12 = .ok (.sipush 203, 3) := by decide +kernel
theorem dX6_notes_15 : decode cX6_notes 15 = .ok (.if_icmp .ge 24, 3) := by decide +kernel
theorem dX6_notes_18 : decode cX6_notes 18 = .ok (.aload_n 0, 1) := by decide +kernel
theorem dX6_notes_19 : decode cX6_notes 19 = .ok (.getfield 52, 3) := by decide +kernel
theorem dX6_notes_22 : decode cX6_notes 22 = .ok (.iload_n 1, 1) := by decide +kernel
theorem dX6_notes_23 : decode cX6_notes 23 = .ok (.aload_n 0, 1) := by decide +kernel
theorem dX6_notes_24 : decode cX6_notes 24 = .ok (.getfield 52, 3) := by decide +kernel
theorem dX6_notes_27 : decode cX6_notes 27 = .ok (.iload_n 1, 1) := by decide +kernel
theorem dX6_notes_28 : decode cX6_notes 28 = .ok (.bipush 29, 2) := by decide +kernel
theorem dX6_notes_30 : decode cX6_notes 30 = .ok (.iadd, 1) := by decide +kernel
theorem dX6_notes_31 : decode cX6_notes 31 = .ok (.iaload, 1) := by decide +kernel
theorem dX6_notes_32 : decode cX6_notes 32 = .ok (.iastore, 1) := by decide +kernel
theorem dX6_notes_33 : decode cX6_notes 33 = .ok (.iinc 1 1, 3) := by decide +kernel
theorem dX6_notes_36 : decode cX6_notes 36 = .ok (.goto (-25), 3) := by decide +kernel
theorem dX6_notes_39 : decode cX6_notes 39 = .ok (.aload_n 0, 1) := by decide +kernel
theorem dX6_notes_40 : decode cX6_notes 40 = .ok (.dup, 1) := by decide +kernel
theorem dX6_notes_41 : decode cX6_notes 41 = .ok (.getfield 143, 3) := by decide +kernel
theorem dX6_notes_44 : decode cX6_notes 44 = .ok (.iconst 1, 1) := by decide +kernel
theorem dX6_notes_45 : decode cX6_notes 45 = .ok (.isub, 1) := by decide +kernel
theorem dX6_notes_46 : decode cX6_notes 46 = .ok (.putfield 143, 3) := by decide +kernel
theorem dX6_notes_49 : decode cX6_notes 49 = .ok (.aload_n 0, 1) := by decide +kernel
theorem dX6_notes_50 : decode cX6_notes 50 = .ok (.aload_n 0, 1) := by decide +kernel
theorem dX6_notes_51 : decode cX6_notes 51 = .ok (.getfield 52, 3) := by decide +kernel
theorem dX6_notes_54 : decode cX6_notes 54 = .ok (.bipush 29, 2) := by decide +kernel
theorem dX6_notes_56 : decode cX6_notes 56 = .ok (.aload_n 0, 1) := by decide +kernel
theorem dX6_notes_57 : decode cX6_notes 57 = .ok (.getfield 143, 3) := by decide +kernel
theorem dX6_notes_60 : decode cX6_notes 60 = .ok (.imul, 1) := by decide +kernel
theorem dX6_notes_61 : decode cX6_notes 61 = .ok (.invokevirtual 196, 3) := by decide +kernel
theorem dX6_notes_64 : decode cX6_notes 64 = .ok (.aload_n 0, 1) := by decide +kernel
theorem dX6_notes_65 : decode cX6_notes 65 = .ok (.dup, 1) := by decide +kernel
theorem dX6_notes_66 : decode cX6_notes 66 = .ok (.getfield 143, 3) := by decide +kernel
theorem dX6_notes_69 : decode cX6_notes 69 = .ok (.iconst 1, 1) := by decide +kernel
theorem dX6_notes_70 : decode cX6_notes 70 = .ok (.iadd, 1) := by decide +kernel
theorem dX6_notes_71 : decode cX6_notes 71 = .ok (.putfield 143, 3) := by decide +kernel
theorem dX6_notes_74 : decode cX6_notes 74 = .ok (.return_, 1) := by decide +kernel
theorem dX6_pass_0 : decode cX6_pass 0 = .ok (.iload_n 1, 1) := by decide +kernel
theorem dX6_pass_1 : decode cX6_pass 1 = .ok (.iconst 1, 1) := by decide +kernel
theorem dX6_pass_2 : decode cX6_pass 2 = .ok (.bipush 20, 2) := by decide +kernel
theorem dX6_pass_4 : decode cX6_pass 4 = .ok (.invokestatic 94, 3) := by decide +kernel
theorem dX6_pass_7 : decode cX6_pass 7 = .ok (.ifCond .ne 5, 3) := by decide +kernel
theorem dX6_pass_10 : decode cX6_pass 10 = .ok (.iconst (-1), 1) := by decide +kernel
theorem dX6_pass_11 : decode cX6_pass 11 = .ok (.ireturn, 1) := by decide +kernel
theorem dX6_pass_12 : decode cX6_pass 12 = .ok (.aload_n 0, 1) := by decide +kernel
theorem dX6_pass_13 : decode cX6_pass 13 = .ok (.getfield 137, 3) := by decide +kernel
theorem dX6_pass_16 : decode cX6_pass 16 = .ok (.iload_n 1, 1) := by decide +kernel
theorem dX6_pass_17 : decode cX6_pass 17 = .ok (.iadd, 1) := by decide +kernel
theorem dX6_pass_18 : decode cX6_pass 18 = .ok (.sipush 999, 3) := by decide +kernel
theorem dX6_pass_21 : decode cX6_pass 21 = .ok (.if_icmp .le 6, 3) := by decide +kernel
theorem dX6_pass_24 : decode cX6_pass 24 = .ok (.bipush (-2), 2) := by decide +kernel
theorem dX6_pass_26 : decode cX6_pass 26 = .ok (.ireturn, 1) := by decide +kernel
theorem dX6_pass_27 : decode cX6_pass 27 = .ok (.aload_n 0, 1) := by decide +kernel
theorem dX6_pass_28 : decode cX6_pass 28 = .ok (.invokevirtual 200, 3) := by decide +kernel
theorem dX6_pass_31 : decode cX6_pass 31 = .ok (.iconst 0, 1) := by decide +kernel
theorem dX6_pass_32 : decode cX6_pass 32 = .ok (.istore_n 2, 1) := by decide +kernel
theorem dX6_pass_33 : decode cX6_pass 33 = .ok (.iconst 0, 1) := by decide +kernel
theorem dX6_pass_34 : decode cX6_pass 34 = .ok (.istore_n 3, 1) := by decide +kernel
theorem dX6_pass_35 : decode cX6_pass 35 = .ok (.iload_n 3, 1) := by decide +kernel
theorem dX6_pass_36 : decode cX6_pass 36 = .ok (.iload_n 1, 1) := by decide +kernel
theorem dX6_pass_37 : decode cX6_pass 37 = .ok (.if_icmp .ge 28, 3) := by decide +kernel
theorem dX6_pass_40 : decode cX6_pass 40 = .ok (.aload_n 0, 1) := by decide +kernel
theorem dX6_pass_41 : decode cX6_pass 41 = .ok (.invokevirtual 186, 3) := by decide +kernel
theorem dX6_pass_44 : decode cX6_pass 44 = .ok (.istore 4, 2) := by decide +kernel
theorem dX6_pass_46 : decode cX6_pass 46 = .ok (.iload_n 2, 1) := by decide +kernel
theorem dX6_pass_47 : decode cX6_pass 47 = .ok (.iload 4, 2) := by decide +kernel
theorem dX6_pass_49 : decode cX6_pass 49 = .ok (.ifCond .eq 7, 3) := by decide +kernel
theorem dX6_pass_52 : decode cX6_pass 52 = .ok (.iconst 1, 1) := by decide +kernel
theorem dX6_pass_53 : decode cX6_pass 53 = .ok (.goto 4, 3) := by decide +kernel
theorem dX6_pass_56 : decode cX6_pass 56 = .ok (.iconst 0, 1) := by decide +kernel
theorem dX6_pass_57 : decode cX6_pass 57 = .ok (.iadd, 1) := by decide +kernel
theorem dX6_pass_58 : decode cX6_pass 58 = .ok (.istore_n 2, 1) := by decide +kernel
theorem dX6_pass_59 : decode cX6_pass 59 = .ok (.iinc 3 1, 3) := by decide +kernel
theorem dX6_pass_62 : decode cX6_pass 62 = .ok (.goto (-27), 3) := by decide +kernel
theorem dX6_pass_65 : decode cX6_pass 65 = .ok (.iload_n 2, 1) := by decide +kernel
theorem dX6_pass_66 : decode cX6_pass 66 = .ok (.ireturn, 1) := by decide +kernel
theorem dX6_wind_0 : decode cX6_wind 0 = .ok (.iload_n 1, 1) := by decide +kernel
theorem dX6_wind_1 : decode cX6_wind 1 = .ok (.iconst 0, 1) := by decide +kernel
theorem dX6_wind_2 : decode cX6_wind 2 = .ok (.iconst 4, 1) := by decide +kernel
theorem dX6_wind_3 : decode cX6_wind 3 = .ok (.invokestatic 94, 3) := by decide +kernel
theorem dX6_wind_6 : decode cX6_wind 6 = .ok (.ifCond .eq 13, 3) := by decide +kernel
theorem dX6_wind_9 : decode cX6_wind 9 = .ok (.iload_n 2, 1) := by decide +kernel
theorem dX6_wind_10 : decode cX6_wind 10 = .ok (.iconst 0, 1) := by decide +kernel
theorem dX6_wind_11 : decode cX6_wind 11 = .ok (.bipush 20, 2) := by decide +kernel
theorem dX6_wind_13 : decode cX6_wind 13 = .ok (.invokestatic 94, 3) := by decide +kernel
theorem dX6_wind_16 : decode cX6_wind 16 = .ok (.ifCond .ne 5, 3) := by decide +kernel
theorem dX6_wind_19 : decode cX6_wind 19 = .ok (.iconst (-1), 1) := by decide +kernel
theorem dX6_wind_20 : decode cX6_wind 20 = .ok (.ireturn, 1) := by decide +kernel
theorem dX6_wind_21 : decode cX6_wind 21 = .ok (.aload_n 0, 1) := by decide +kernel
theorem dX6_wind_22 : decode cX6_wind 22 = .ok (.invokevirtual 200, 3) := by decide +kernel
theorem dX6_wind_25 : decode cX6_wind 25 = .ok (.aload_n 0, 1) := by decide +kernel
theorem dX6_wind_26 : decode cX6_wind 26 = .ok (.getfield 74, 3) := by decide +kernel
theorem dX6_wind_29 : decode cX6_wind 29 = .ok (.istore_n 3, 1) := by decide +kernel
theorem dX6_wind_30 : decode cX6_wind 30 = .ok (.aload_n 0, 1) := by decide +kernel
theorem dX6_wind_31 : decode cX6_wind 31 = .ok (.iload_n 1, 1) := by decide +kernel
theorem dX6_wind_32 : decode cX6_wind 32 = .ok (.putfield 71, 3) := by decide +kernel
theorem dX6_wind_35 : decode cX6_wind 35 = .ok (.aload_n 0, 1) := by decide +kernel
theorem dX6_wind_36 : decode cX6_wind 36 = .ok (.iload_n 2, 1) := by decide +kernel
theorem dX6_wind_37 : decode cX6_wind 37 = .ok (.putfield 74, 3) := by decide +kernel
theorem dX6_wind_40 : decode cX6_wind 40 = .ok (.iload_n 3, 1) := by decide +kernel
theorem dX6_wind_41 : decode cX6_wind 41 = .ok (.ireturn, 1) := by decide +kernel
theorem dX6_put_0 : decode cX6_put 0 = .ok (.aload_n 0, 1) := by decide +kernel
theorem dX6_put_1 : decode cX6_put 1 = .ok (.iload_n 1, 1) := by decide +kernel
theorem dX6_put_2 : decode cX6_put 2 = .ok (.invokevirtual 189, 3) := by decide +kernel
theorem dX6_put_5 : decode cX6_put 5 = .ok (.ifCond .eq 11, 3) := by decide +kernel
theorem dX6_put_8 : decode cX6_put 8 = .ok (.iload_n 2, 1) := by decide +kernel
theorem dX6_put_9 : decode cX6_put 9 = .ok (.iload_n 3, 1) := by decide +kernel
theorem dX6_put_10 : decode cX6_put 10 = .ok (.invokestatic 179, 3) := by decide +kernel
theorem dX6_put_13 : decode cX6_put 13 = .ok (.ifCond .ne 5, 3) := by decide +kernel
theorem dX6_put_16 : decode cX6_put 16 = .ok (.iconst (-1), 1) := by decide +kernel
theorem dX6_put_17 : decode cX6_put 17 = .ok (.ireturn, 1) := by decide +kernel
theorem dX6_put_18 : decode cX6_put 18 = .ok (.aload_n 0, 1) := by decide +kernel
theorem dX6_put_19 : decode cX6_put 19 = .ok (.getfield 28, 3) := by decide +kernel
theorem dX6_put_22 : decode cX6_put 22 = .ok (.iload_n 1, 1) := by decide +kernel
theorem dX6_put_23 : decode cX6_put 23 = .ok (.iaload, 1) := by decide +kernel
theorem dX6_put_24 : decode cX6_put 24 = .ok (.ifCond .ne 26, 3) := by decide +kernel
theorem dX6_put_27 : decode cX6_put 27 = .ok (.aload_n 0, 1) := by decide +kernel
theorem dX6_put_28 : decode cX6_put 28 = .ok (.getfield 19, 3) := by decide +kernel
theorem dX6_put_31 : decode cX6_put 31 = .ok (.iload_n 1, 1) := by decide +kernel
theorem dX6_put_32 : decode cX6_put 32 = .ok (.iaload, 1) := by decide +kernel
theorem dX6_put_33 : decode cX6_put 33 = .ok (.iload_n 2, 1) := by decide +kernel
theorem dX6_put_34 : decode cX6_put 34 = .ok (.if_icmp .ne 16, 3) := by decide +kernel
theorem dX6_put_37 : decode cX6_put 37 = .ok (.aload_n 0, 1) := by decide +kernel
theorem dX6_put_38 : decode cX6_put 38 = .ok (.getfield 22, 3) := by decide +kernel
theorem dX6_put_41 : decode cX6_put 41 = .ok (.iload_n 1, 1) := by decide +kernel
theorem dX6_put_42 : decode cX6_put 42 = .ok (.iaload, 1) := by decide +kernel
theorem dX6_put_43 : decode cX6_put 43 = .ok (.iload_n 3, 1) := by decide +kernel
theorem dX6_put_44 : decode cX6_put 44 = .ok (.if_icmp .ne 6, 3) := by decide +kernel
theorem dX6_put_47 : decode cX6_put 47 = .ok (.bipush (-2), 2) := by decide +kernel
theorem dX6_put_49 : decode cX6_put 49 = .ok (.ireturn, 1) := by decide +kernel
theorem dX6_put_50 : decode cX6_put 50 = .ok (.aload_n 0, 1) := by decide +kernel
theorem dX6_put_51 : decode cX6_put 51 = .ok (.invokevirtual 200, 3) := by decide +kernel
theorem dX6_put_54 : decode cX6_put 54 = .ok (.aload_n 0, 1) := by decide +kernel
theorem dX6_put_55 : decode cX6_put 55 = .ok (.getfield 28, 3) := by decide +kernel
theorem dX6_put_58 : decode cX6_put 58 = .ok (.iload_n 1, 1) := by decide +kernel
theorem dX6_put_59 : decode cX6_put 59 = .ok (.iaload, 1) := by decide +kernel
theorem dX6_put_60 : decode cX6_put 60 = .ok (.istore 4, 2) := by decide +kernel
theorem dX6_put_62 : decode cX6_put 62 = .ok (.aload_n 0, 1) := by decide +kernel
theorem dX6_put_63 : decode cX6_put 63 = .ok (.iload_n 1, 1) := by decide +kernel
theorem dX6_put_64 : decode cX6_put 64 = .ok (.iload_n 2, 1) := by decide +kernel
theorem dX6_put_65 : decode cX6_put 65 = .ok (.iload_n 3, 1) := by decide +kernel
theorem dX6_put_66 : decode cX6_put 66 = .ok (.aload_n 0, 1) := by decide +kernel
theorem dX6_put_67 : decode cX6_put 67 = .ok (.getfield 25, 3) := by decide +kernel
theorem dX6_put_70 : decode cX6_put 70 = .ok (.iload_n 1, 1) := by decide +kernel
theorem dX6_put_71 : decode cX6_put 71 = .ok (.iaload, 1) := by decide +kernel
theorem dX6_put_72 : decode cX6_put 72 = .ok (.invokevirtual 87, 3) := by decide +kernel
theorem dX6_put_75 : decode cX6_put 75 = .ok (.iload 4, 2) := by decide +kernel
theorem dX6_put_77 : decode cX6_put 77 = .ok (.ireturn, 1) := by decide +kernel
theorem dX6_smell_0 : decode cX6_smell 0 = .ok (.aload_n 0, 1) := by decide +kernel
theorem dX6_smell_1 : decode cX6_smell 1 = .ok (.iload_n 1, 1) := by decide +kernel
theorem dX6_smell_2 : decode cX6_smell 2 = .ok (.invokevirtual 189, 3) := by decide +kernel
theorem dX6_smell_5 : decode cX6_smell 5 = .ok (.ifCond .eq 12, 3) := by decide +kernel
theorem dX6_smell_8 : decode cX6_smell 8 = .ok (.iload_n 2, 1) := by decide +kernel
theorem dX6_smell_9 : decode cX6_smell 9 = .ok (.iconst 0, 1) := by decide +kernel
theorem dX6_smell_10 : decode cX6_smell 10 = .ok (.iconst 5, 1) := by decide +kernel
theorem dX6_smell_11 : decode cX6_smell 11 = .ok (.invokestatic 94, 3) := by decide +kernel
theorem dX6_smell_14 : decode cX6_smell 14 = .ok (.ifCond .ne 5, 3) := by decide +kernel
theorem dX6_smell_17 : decode cX6_smell 17 = .ok (.iconst (-1), 1) := by decide +kernel
theorem dX6_smell_18 : decode cX6_smell 18 = .ok (.ireturn, 1) := by decide +kernel
theorem dX6_smell_19 : decode cX6_smell 19 = .ok (.aload_n 0, 1) := by decide +kernel
theorem dX6_smell_20 : decode cX6_smell 20 = .ok (.getfield 28, 3) := by decide +kernel
theorem dX6_smell_23 : decode cX6_smell 23 = .ok (.iload_n 1, 1) := by decide +kernel
theorem dX6_smell_24 : decode cX6_smell 24 = .ok (.iaload, 1) := by decide +kernel
theorem dX6_smell_25 : decode cX6_smell 25 = .ok (.iconst 1, 1) := by decide +kernel
theorem dX6_smell_26 : decode cX6_smell 26 = .ok (.if_icmp .eq 13, 3) := by decide +kernel
theorem dX6_smell_29 : decode cX6_smell 29 = .ok (.aload_n 0, 1) := by decide +kernel
theorem dX6_smell_30 : decode cX6_smell 30 = .ok (.getfield 25, 3) := by decide +kernel
theorem dX6_smell_33 : decode cX6_smell 33 = .ok (.iload_n 1, 1) := by decide +kernel
theorem dX6_smell_34 : decode cX6_smell 34 = .ok (.iaload, 1) := by decide +kernel
theorem dX6_smell_35 : decode cX6_smell 35 = .ok (.iload_n 2, 1) := by decide +kernel
theorem dX6_smell_36 : decode cX6_smell 36 = .ok (.if_icmp .ne 6, 3) := by decide +kernel
theorem dX6_smell_39 : decode cX6_smell 39 = .ok (.bipush (-2), 2) := by decide +kernel
theorem dX6_smell_41 : decode cX6_smell 41 = .ok (.ireturn, 1) := by decide +kernel
theorem dX6_smell_42 : decode cX6_smell 42 = .ok (.aload_n 0, 1) := by decide +kernel
theorem dX6_smell_43 : decode cX6_smell 43 = .ok (.invokevirtual 200, 3) := by decide +kernel
theorem dX6_smell_46 : decode cX6_smell 46 = .ok (.aload_n 0, 1) := by decide +kernel
theorem dX6_smell_47 : decode cX6_smell 47 = .ok (.getfield 25, 3) := by decide +kernel
theorem dX6_smell_50 : decode cX6_smell 50 = .ok (.iload_n 1, 1) := by decide +kernel
theorem dX6_smell_51 : decode cX6_smell 51 = .ok (.iaload, 1) := by decide +kernel
theorem dX6_smell_52 : decode cX6_smell 52 = .ok (.istore_n 3, 1) := by decide +kernel
theorem dX6_smell_53 : decode cX6_smell 53 = .ok (.aload_n 0, 1) := by decide +kernel
theorem dX6_smell_54 : decode cX6_smell 54 = .ok (.getfield 25, 3) := by decide +kernel
theorem dX6_smell_57 : decode cX6_smell 57 = .ok (.iload_n 1, 1) := by decide +kernel
theorem dX6_smell_58 : decode cX6_smell 58 = .ok (.iload_n 2, 1) := by decide +kernel
theorem dX6_smell_59 : decode cX6_smell 59 = .ok (.iastore, 1) := by decide +kernel
theorem dX6_smell_60 : decode cX6_smell 60 = .ok (.iload_n 3, 1) := by decide +kernel
theorem dX6_smell_61 : decode cX6_smell 61 = .ok (.ireturn, 1) := by decide +kernel
theorem dX6_left_0 : decode cX6_left 0 = .ok (.iconst 0, 1) := by decide +kernel
theorem dX6_left_1 : decode cX6_left 1 = .ok (.istore_n 1, 1) := by decide +kernel
theorem dX6_left_2 : decode cX6_left 2 = .ok (.iconst 0, 1) := by decide +kernel
theorem dX6_left_3 : decode cX6_left 3 = .ok (.istore_n 2, 1) := by decide +kernel
theorem dX6_left_4 : decode cX6_left 4 = .ok (.iload_n 2, 1) := by decide +kernel
theorem dX6_left_5 : decode cX6_left 5 = .ok (.aload_n 0, 1) := by decide +kernel
theorem dX6_left_6 : decode cX6_left 6 = .ok (.getfield 84, 3) := by decide +kernel
theorem dX6_left_9 : decode cX6_left 9 = .ok (.if_icmp .ge 20, 3) := by decide +kernel
theorem dX6_left_12 : decode cX6_left 12 = .ok (.iload_n 1, 1) := by decide +kernel
theorem dX6_left_13 : decode cX6_left 13 = .ok (.iconst 1, 1) := by decide +kernel
theorem dX6_left_14 : decode cX6_left 14 = .ok (.aload_n 0, 1) := by decide +kernel
theorem dX6_left_15 : decode cX6_left 15 = .ok (.getfield 28, 3) := by decide +kernel
theorem dX6_left_18 : decode cX6_left 18 = .ok (.iload_n 2, 1) := by decide +kernel
theorem dX6_left_19 : decode cX6_left 19 = .ok (.iaload, 1) := by decide +kernel
theorem dX6_left_20 : decode cX6_left 20 = .ok (.isub, 1) := by decide +kernel
theorem dX6_left_21 : decode cX6_left 21 = .ok (.iadd, 1) := by decide +kernel
theorem dX6_left_22 : decode cX6_left 22 = .ok (.istore_n 1, 1) := by decide +kernel
theorem dX6_left_23 : decode cX6_left 23 = .ok (.iinc 2 1, 3) := by decide +kernel
theorem dX6_left_26 : decode cX6_left 26 = .ok (.goto (-22), 3) := by decide +kernel
theorem dX6_left_29 : decode cX6_left 29 = .ok (.iload_n 1, 1) := by decide +kernel
theorem dX6_left_30 : decode cX6_left 30 = .ok (.ireturn, 1) := by decide +kernel
theorem dX6_take_0 : decode cX6_take 0 = .ok (.aload_n 0, 1) := by decide +kernel
theorem dX6_take_1 : decode cX6_take 1 = .ok (.iload_n 1, 1) := by decide +kernel
theorem dX6_take_2 : decode cX6_take 2 = .ok (.invokevirtual 189, 3) := by decide +kernel
theorem dX6_take_5 : decode cX6_take 5 = .ok (.ifCond .ne 5, 3) := by decide +kernel
theorem dX6_take_8 : decode cX6_take 8 = .ok (.iconst (-1), 1) := by decide +kernel
theorem dX6_take_9 : decode cX6_take 9 = .ok (.ireturn, 1) := by decide +kernel
theorem dX6_take_10 : decode cX6_take 10 = .ok (.aload_n 0, 1) := by decide +kernel
theorem dX6_take_11 : decode cX6_take 11 = .ok (.getfield 28, 3) := by decide +kernel
theorem dX6_take_14 : decode cX6_take 14 = .ok (.iload_n 1, 1) := by decide +kernel
theorem dX6_take_15 : decode cX6_take 15 = .ok (.iaload, 1) := by decide +kernel
theorem dX6_take_16 : decode cX6_take 16 = .ok (.iconst 1, 1) := by decide +kernel
theorem dX6_take_17 : decode cX6_take 17 = .ok (.if_icmp .ne 6, 3) := by decide +kernel
theorem dX6_take_20 : decode cX6_take 20 = .ok (.bipush (-2), 2) := by decide +kernel
theorem dX6_take_22 : decode cX6_take 22 = .ok (.ireturn, 1) := by decide +kernel
theorem dX6_take_23 : decode cX6_take 23 = .ok (.aload_n 0, 1) := by decide +kernel
theorem dX6_take_24 : decode cX6_take 24 = .ok (.invokevirtual 200, 3) := by decide +kernel
theorem dX6_take_27 : decode cX6_take 27 = .ok (.aload_n 0, 1) := by decide +kernel
theorem dX6_take_28 : decode cX6_take 28 = .ok (.getfield 28, 3) := by decide +kernel
theorem dX6_take_31 : decode cX6_take 31 = .ok (.iload_n 1, 1) := by decide +kernel
theorem dX6_take_32 : decode cX6_take 32 = .ok (.iconst 1, 1) := by decide +kernel
theorem dX6_take_33 : decode cX6_take 33 = .ok (.iastore, 1) := by decide +kernel
theorem dX6_take_34 : decode cX6_take 34 = .ok (.aload_n 0, 1) := by decide +kernel
theorem dX6_take_35 : decode cX6_take 35 = .ok (.invokevirtual 203, 3) := by decide +kernel
theorem dX6_take_38 : decode cX6_take 38 = .ok (.ireturn, 1) := by decide +kernel
theorem dX6_undo_0 : decode cX6_undo 0 = .ok (.aload_n 0, 1) := by decide +kernel
theorem dX6_undo_1 : decode cX6_undo 1 = .ok (.getfield 143, 3) := by decide +kernel
theorem dX6_undo_4 : decode cX6_undo 4 = .ok (.ifCond .ne 6, 3) := by decide +kernel
theorem dX6_undo_7 : decode cX6_undo 7 = .ok (.bipush (-2), 2) := by decide +kernel
theorem dX6_undo_9 : decode cX6_undo 9 = .ok (.ireturn, 1) := by decide +kernel
theorem dX6_undo_10 : decode cX6_undo 10 = .ok (.aload_n 0, 1) := by decide +kernel
theorem dX6_undo_11 : decode cX6_undo 11 = .ok (.dup, 1) := by decide +kernel
theorem dX6_undo_12 : decode cX6_undo 12 = .ok (.getfield 143, 3) := by decide +kernel
theorem dX6_undo_15 : decode cX6_undo 15 = .ok (.iconst 1, 1) := by decide +kernel
theorem dX6_undo_16 : decode cX6_undo 16 = .ok (.isub, 1) := by decide +kernel
theorem dX6_undo_17 : decode cX6_undo 17 = .ok (.putfield 143, 3) := by decide +kernel
theorem dX6_undo_20 : decode cX6_undo 20 = .ok (.aload_n 0, 1) := by decide +kernel
theorem dX6_undo_21 : decode cX6_undo 21 = .ok (.aload_n 0, 1) := by decide +kernel
theorem dX6_undo_22 : decode cX6_undo 22 = .ok (.getfield 52, 3) := by decide +kernel
theorem dX6_undo_25 : decode cX6_undo 25 = .ok (.bipush 29, 2) := by decide +kernel
theorem dX6_undo_27 : decode cX6_undo 27 = .ok (.aload_n 0, 1) := by decide +kernel
theorem dX6_undo_28 : decode cX6_undo 28 = .ok (.getfield 143, 3) := by decide +kernel
theorem dX6_undo_31 : decode cX6_undo 31 = .ok (.imul, 1) := by decide +kernel
theorem dX6_undo_32 : decode cX6_undo 32 = .ok (.invokevirtual 206, 3) := by decide +kernel
theorem dX6_undo_35 : decode cX6_undo 35 = .ok (.aload_n 0, 1) := by decide +kernel
theorem dX6_undo_36 : decode cX6_undo 36 = .ok (.getfield 143, 3) := by decide +kernel
theorem dX6_undo_39 : decode cX6_undo 39 = .ok (.ireturn, 1) := by decide +kernel
theorem dX6_puts_0 : decode cX6_puts 0 = .ok (.aload_n 0, 1) := by decide +kernel
theorem dX6_puts_1 : decode cX6_puts 1 = .ok (.aload_n 0, 1) := by decide +kernel
theorem dX6_puts_2 : decode cX6_puts 2 = .ok (.getfield 55, 3) := by decide +kernel
theorem dX6_puts_5 : decode cX6_puts 5 = .ok (.iconst 0, 1) := by decide +kernel
theorem dX6_puts_6 : decode cX6_puts 6 = .ok (.invokevirtual 196, 3) := by decide +kernel
theorem dX6_puts_9 : decode cX6_puts 9 = .ok (.return_, 1) := by decide +kernel
theorem dX6_puttingBack_0 : decode cX6_puttingBack 0 = .ok (.aload_n 0, 1) := by decide +kernel
theorem dX6_puttingBack_1 : decode cX6_puttingBack 1 = .ok (.aload_n 0, 1) := by decide +kernel
theorem dX6_puttingBack_2 : decode cX6_puttingBack 2 = .ok (.getfield 55, 3) := by decide +kernel
theorem dX6_puttingBack_5 : decode cX6_puttingBack 5 = .ok (.iconst 0, 1) := by decide +kernel
theorem dX6_puttingBack_6 : decode cX6_puttingBack 6 = .ok (.invokevirtual 206, 3) := by decide +kernel
theorem dX6_puttingBack_9 : decode cX6_puttingBack 9 = .ok (.return_, 1) := by decide +kernel
theorem dX6_behind_0 : decode cX6_behind 0 = .ok (.iload_n 1, 1) := by decide +kernel
theorem dX6_behind_1 : decode cX6_behind 1 = .ok (.iconst 0, 1) := by decide +kernel
theorem dX6_behind_2 : decode cX6_behind 2 = .ok (.bipush 40, 2) := by decide +kernel
theorem dX6_behind_4 : decode cX6_behind 4 = .ok (.invokestatic 94, 3) := by decide +kernel
theorem dX6_behind_7 : decode cX6_behind 7 = .ok (.ifCond .eq 12, 3) := by decide +kernel
theorem dX6_behind_10 : decode cX6_behind 10 = .ok (.iload_n 2, 1) := by decide +kernel
theorem dX6_behind_11 : decode cX6_behind 11 = .ok (.iconst 0, 1) := by decide +kernel
theorem dX6_behind_12 : decode cX6_behind 12 = .ok (.iconst 1, 1) := by decide +kernel
theorem dX6_behind_13 : decode cX6_behind 13 = .ok (.invokestatic 94, 3) := by decide +kernel
theorem dX6_behind_16 : decode cX6_behind 16 = .ok (.ifCond .ne 5, 3) := by decide +kernel
theorem dX6_behind_19 : decode cX6_behind 19 = .ok (.iconst (-1), 1) := by decide +kernel
theorem dX6_behind_20 : decode cX6_behind 20 = .ok (.ireturn, 1) := by decide +kernel
theorem dX6_behind_21 : decode cX6_behind 21 = .ok (.aload_n 0, 1) := by decide +kernel
theorem dX6_behind_22 : decode cX6_behind 22 = .ok (.invokevirtual 209, 3) := by decide +kernel
theorem dX6_behind_25 : decode cX6_behind 25 = .ok (.aload_n 0, 1) := by decide +kernel
theorem dX6_behind_26 : decode cX6_behind 26 = .ok (.iload_n 1, 1) := by decide +kernel
theorem dX6_behind_27 : decode cX6_behind 27 = .ok (.invokevirtual 212, 3) := by decide +kernel
theorem dX6_behind_30 : decode cX6_behind 30 = .ok (.iload_n 2, 1) := by decide +kernel
theorem dX6_behind_31 : decode cX6_behind 31 = .ok (.ifCond .ne 10, 3) := by decide +kernel
theorem dX6_behind_34 : decode cX6_behind 34 = .ok (.aload_n 0, 1) := by decide +kernel
theorem dX6_behind_35 : decode cX6_behind 35 = .ok (.getfield 61, 3) := by decide +kernel
theorem dX6_behind_38 : decode cX6_behind 38 = .ok (.goto 7, 3) := by decide +kernel
theorem dX6_behind_41 : decode cX6_behind 41 = .ok (.aload_n 0, 1) := by decide +kernel
theorem dX6_behind_42 : decode cX6_behind 42 = .ok (.getfield 65, 3) := by decide +kernel
theorem dX6_behind_45 : decode cX6_behind 45 = .ok (.istore_n 3, 1) := by decide +kernel
theorem dX6_behind_46 : decode cX6_behind 46 = .ok (.aload_n 0, 1) := by decide +kernel
theorem dX6_behind_47 : decode cX6_behind 47 = .ok (.invokevirtual 216, 3) := by decide +kernel
theorem dX6_behind_50 : decode cX6_behind 50 = .ok (.iload_n 3, 1) := by decide +kernel
theorem dX6_behind_51 : decode cX6_behind 51 = .ok (.ireturn, 1) := by decide +kernel
theorem dX6_stands_0 : decode cX6_stands 0 = .ok (.aload_n 0, 1) := by decide +kernel
theorem dX6_stands_1 : decode cX6_stands 1 = .ok (.invokevirtual 209, 3) := by decide +kernel
theorem dX6_stands_4 : decode cX6_stands 4 = .ok (.iconst 0, 1) := by decide +kernel
theorem dX6_stands_5 : decode cX6_stands 5 = .ok (.istore_n 1, 1) := by decide +kernel
theorem dX6_stands_6 : decode cX6_stands 6 = .ok (.iload_n 1, 1) := by decide +kernel
theorem dX6_stands_7 : decode cX6_stands 7 = .ok (.bipush 40, 2) := by decide +kernel
theorem dX6_stands_9 : decode cX6_stands 9 = .ok (.if_icmp .gt 21, 3) := by decide +kernel
theorem dX6_stands_12 : decode cX6_stands 12 = .ok (.aload_n 0, 1) := by decide +kernel
theorem dX6_stands_13 : decode cX6_stands 13 = .ok (.invokevirtual 183, 3) := by decide +kernel
theorem dX6_stands_16 : decode cX6_stands 16 = .ok (.ifCond .eq 14, 3) := by decide +kernel
theorem dX6_stands_19 : decode cX6_stands 19 = .ok (.aload_n 0, 1) := by decide +kernel
theorem dX6_stands_20 : decode cX6_stands 20 = .ok (.invokevirtual 186, 3) := by decide +kernel
theorem dX6_stands_23 : decode cX6_stands 23 = .ok (.pop, 1) := by decide +kernel
theorem dX6_stands_24 : decode cX6_stands 24 = .ok (.iinc 1 1, 3) := by decide +kernel
theorem dX6_stands_27 : decode cX6_stands 27 = .ok (.goto (-21), 3) := by decide +kernel
theorem dX6_stands_30 : decode cX6_stands 30 = .ok (.aload_n 0, 1) := by decide +kernel
theorem dX6_stands_31 : decode cX6_stands 31 = .ok (.invokevirtual 216, 3) := by decide +kernel
theorem dX6_stands_34 : decode cX6_stands 34 = .ok (.iload_n 1, 1) := by decide +kernel
theorem dX6_stands_35 : decode cX6_stands 35 = .ok (.bipush 40, 2) := by decide +kernel
theorem dX6_stands_37 : decode cX6_stands 37 = .ok (.if_icmp .gt 7, 3) := by decide +kernel
theorem dX6_stands_40 : decode cX6_stands 40 = .ok (.iload_n 1, 1) := by decide +kernel
theorem dX6_stands_41 : decode cX6_stands 41 = .ok (.goto 5, 3) := by decide +kernel
theorem dX6_stands_44 : decode cX6_stands 44 = .ok (.bipush (-4), 2) := by decide +kernel
theorem dX6_stands_46 : decode cX6_stands 46 = .ok (.ireturn, 1) := by decide +kernel
theorem dX6_gale_0 : decode cX6_gale 0 = .ok (.iload_n 1, 1) := by decide +kernel
theorem dX6_gale_1 : decode cX6_gale 1 = .ok (.iconst 1, 1) := by decide +kernel
theorem dX6_gale_2 : decode cX6_gale 2 = .ok (.iconst 4, 1) := by decide +kernel
theorem dX6_gale_3 : decode cX6_gale 3 = .ok (.invokestatic 94, 3) := by decide +kernel
theorem dX6_gale_6 : decode cX6_gale 6 = .ok (.ifCond .ne 5, 3) := by decide +kernel
theorem dX6_gale_9 : decode cX6_gale 9 = .ok (.iconst (-1), 1) := by decide +kernel
theorem dX6_gale_10 : decode cX6_gale 10 = .ok (.ireturn, 1) := by decide +kernel
theorem dX6_gale_11 : decode cX6_gale 11 = .ok (.aload_n 0, 1) := by decide +kernel
theorem dX6_gale_12 : decode cX6_gale 12 = .ok (.invokevirtual 209, 3) := by decide +kernel
theorem dX6_gale_15 : decode cX6_gale 15 = .ok (.aload_n 0, 1) := by decide +kernel
theorem dX6_gale_16 : decode cX6_gale 16 = .ok (.iload_n 1, 1) := by decide +kernel
theorem dX6_gale_17 : decode cX6_gale 17 = .ok (.putfield 71, 3) := by decide +kernel
theorem dX6_gale_20 : decode cX6_gale 20 = .ok (.bipush 20, 2) := by decide +kernel
theorem dX6_gale_22 : decode cX6_gale 22 = .ok (.istore_n 2, 1) := by decide +kernel
theorem dX6_gale_23 : decode cX6_gale 23 = .ok (.aload_n 0, 1) := by decide +kernel
theorem dX6_gale_24 : decode cX6_gale 24 = .ok (.iload_n 2, 1) := by decide +kernel
theorem dX6_gale_25 : decode cX6_gale 25 = .ok (.putfield 74, 3) := by decide +kernel
theorem dX6_gale_28 : decode cX6_gale 28 = .ok (.iload_n 2, 1) := by decide +kernel
theorem dX6_gale_29 : decode cX6_gale 29 = .ok (.ifCond .lt 21, 3) := by decide +kernel
theorem dX6_gale_32 : decode cX6_gale 32 = .ok (.aload_n 0, 1) := by decide +kernel
theorem dX6_gale_33 : decode cX6_gale 33 = .ok (.invokevirtual 183, 3) := by decide +kernel
theorem dX6_gale_36 : decode cX6_gale 36 = .ok (.ifCond .eq 14, 3) := by decide +kernel
theorem dX6_gale_39 : decode cX6_gale 39 = .ok (.iinc 2 (-1), 3) := by decide +kernel
theorem dX6_gale_42 : decode cX6_gale 42 = .ok (.aload_n 0, 1) := by decide +kernel
theorem dX6_gale_43 : decode cX6_gale 43 = .ok (.iload_n 2, 1) := by decide +kernel
theorem dX6_gale_44 : decode cX6_gale 44 = .ok (.putfield 74, 3) := by decide +kernel
theorem dX6_gale_47 : decode cX6_gale 47 = .ok (.goto (-19), 3) := by decide +kernel
theorem dX6_gale_50 : decode cX6_gale 50 = .ok (.aload_n 0, 1) := by decide +kernel
theorem dX6_gale_51 : decode cX6_gale 51 = .ok (.invokevirtual 216, 3) := by decide +kernel
theorem dX6_gale_54 : decode cX6_gale 54 = .ok (.iload_n 2, 1) := by decide +kernel
theorem dX6_gale_55 : decode cX6_gale 55 = .ok (.ifCond .lt 7, 3) := by decide +kernel
theorem dX6_gale_58 : decode cX6_gale 58 = .ok (.iload_n 2, 1) := by decide +kernel
theorem dX6_gale_59 : decode cX6_gale 59 = .ok (.goto 5, 3) := by decide +kernel
theorem dX6_gale_62 : decode cX6_gale 62 = .ok (.bipush (-4), 2) := by decide +kernel
theorem dX6_gale_64 : decode cX6_gale 64 = .ok (.ireturn, 1) := by decide +kernel
theorem dX6_hold_0 : decode cX6_hold 0 = .ok (.aload_n 0, 1) := by decide +kernel
theorem dX6_hold_1 : decode cX6_hold 1 = .ok (.invokevirtual 183, 3) := by decide +kernel
theorem dX6_hold_4 : decode cX6_hold 4 = .ok (.ifCond .ne 6, 3) := by decide +kernel
theorem dX6_hold_7 : decode cX6_hold 7 = .ok (.bipush (-4), 2) := by decide +kernel
theorem dX6_hold_9 : decode cX6_hold 9 = .ok (.ireturn, 1) := by decide +kernel
theorem dX6_hold_10 : decode cX6_hold 10 = .ok (.bipush (-4), 2) := by decide +kernel
theorem dX6_hold_12 : decode cX6_hold 12 = .ok (.istore_n 1, 1) := by decide +kernel
theorem dX6_hold_13 : decode cX6_hold 13 = .ok (.aload_n 0, 1) := by decide +kernel
theorem dX6_hold_14 : decode cX6_hold 14 = .ok (.invokevirtual 209, 3) := by decide +kernel
theorem dX6_hold_17 : decode cX6_hold 17 = .ok (.aload_n 0, 1) := by decide +kernel
theorem dX6_hold_18 : decode cX6_hold 18 = .ok (.iconst 1, 1) := by decide +kernel
theorem dX6_hold_19 : decode cX6_hold 19 = .ok (.putfield 153, 3) := by decide +kernel
theorem dX6_hold_22 : decode cX6_hold 22 = .ok (.iconst 0, 1) := by decide +kernel
theorem dX6_hold_23 : decode cX6_hold 23 = .ok (.istore_n 2, 1) := by decide +kernel
theorem dX6_hold_24 : decode cX6_hold 24 = .ok (.iload_n 2, 1) := by decide +kernel
theorem dX6_hold_25 : decode cX6_hold 25 = .ok (.sipush 486, 3) := by decide +kernel
theorem dX6_hold_28 : decode cX6_hold 28 = .ok (.if_icmp .ge 103, 3) := by decide +kernel
theorem dX6_hold_31 : decode cX6_hold 31 = .ok (.iload_n 1, 1) := by decide +kernel
theorem dX6_hold_32 : decode cX6_hold 32 = .ok (.bipush (-4), 2) := by decide +kernel
theorem dX6_hold_34 : decode cX6_hold 34 = .ok (.if_icmp .ne 97, 3) := by decide +kernel
theorem dX6_hold_37 : decode cX6_hold 37 = .ok (.iload_n 2, 1) := by decide +kernel
theorem dX6_hold_38 : decode cX6_hold 38 = .ok (.bipush 81, 2) := by decide +kernel
theorem dX6_hold_40 : decode cX6_hold 40 = .ok (.idiv, 1) := by decide +kernel
theorem dX6_hold_41 : decode cX6_hold 41 = .ok (.istore_n 3, 1) := by decide +kernel
theorem dX6_hold_42 : decode cX6_hold 42 = .ok (.iload_n 2, 1) := by decide +kernel
theorem dX6_hold_43 : decode cX6_hold 43 = .ok (.bipush 9, 2) := by decide +kernel
theorem dX6_hold_45 : decode cX6_hold 45 = .ok (.idiv, 1) := by decide +kernel
theorem dX6_hold_46 : decode cX6_hold 46 = .ok (.bipush 9, 2) := by decide +kernel
theorem dX6_hold_48 : decode cX6_hold 48 = .ok (.irem, 1) := by decide +kernel
theorem dX6_hold_49 : decode cX6_hold 49 = .ok (.istore 4, 2) := by decide +kernel
theorem dX6_hold_51 : decode cX6_hold 51 = .ok (.iload_n 2, 1) := by decide +kernel
theorem dX6_hold_52 : decode cX6_hold 52 = .ok (.bipush 9, 2) := by decide +kernel
theorem dX6_hold_54 : decode cX6_hold 54 = .ok (.irem, 1) := by decide +kernel
theorem dX6_hold_55 : decode cX6_hold 55 = .ok (.istore 5, 2) := by decide +kernel
theorem dX6_hold_57 : decode cX6_hold 57 = .ok (.aload_n 0, 1) := by decide +kernel
theorem dX6_hold_58 : decode cX6_hold 58 = .ok (.aload_n 0, 1) := by decide +kernel
theorem dX6_hold_59 : decode cX6_hold 59 = .ok (.getfield 84, 3) := by decide +kernel
theorem dX6_hold_62 : decode cX6_hold 62 = .ok (.iload 5, 2) := by decide +kernel
theorem dX6_hold_64 : decode cX6_hold 64 = .ok (.iload 4, 2) := by decide +kernel
theorem dX6_hold_66 : decode cX6_hold 66 = .ok (.iload_n 3, 1) := by decide +kernel
theorem dX6_hold_67 : decode cX6_hold 67 = .ok (.invokevirtual 87, 3) := by decide +kernel
theorem dX6_hold_70 : decode cX6_hold 70 = .ok (.iload 5, 2) := by decide +kernel
theorem dX6_hold_72 : decode cX6_hold 72 = .ok (.aload_n 0, 1) := by decide +kernel
theorem dX6_hold_73 : decode cX6_hold 73 = .ok (.getfield 61, 3) := by decide +kernel
theorem dX6_hold_76 : decode cX6_hold 76 = .ok (.if_icmp .ne 12, 3) := by decide +kernel
theorem dX6_hold_79 : decode cX6_hold 79 = .ok (.iload 4, 2) := by decide +kernel
theorem dX6_hold_81 : decode cX6_hold 81 = .ok (.aload_n 0, 1) := by decide +kernel
theorem dX6_hold_82 : decode cX6_hold 82 = .ok (.getfield 65, 3) := by decide +kernel
theorem dX6_hold_85 : decode cX6_hold 85 = .ok (.if_icmp .eq 14, 3) := by decide +kernel
theorem dX6_hold_88 : decode cX6_hold 88 = .ok (.aload_n 0, 1) := by decide +kernel
theorem dX6_hold_89 : decode cX6_hold 89 = .ok (.invokevirtual 183, 3) := by decide +kernel
theorem dX6_hold_92 : decode cX6_hold 92 = .ok (.ifCond .ne 7, 3) := by decide +kernel
theorem dX6_hold_95 : decode cX6_hold 95 = .ok (.iconst 1, 1) := by decide +kernel
theorem dX6_hold_96 : decode cX6_hold 96 = .ok (.goto 4, 3) := by decide +kernel
theorem dX6_hold_99 : decode cX6_hold 99 = .ok (.iconst 0, 1) := by decide +kernel
theorem dX6_hold_100 : decode cX6_hold 100 = .ok (.istore 6, 2) := by decide +kernel
theorem dX6_hold_102 : decode cX6_hold 102 = .ok (.iload 6, 2) := by decide +kernel
theorem dX6_hold_104 : decode cX6_hold 104 = .ok (.ifCond .eq 19, 3) := by decide +kernel
theorem dX6_hold_107 : decode cX6_hold 107 = .ok (.bipush 100, 2) := by decide +kernel
theorem dX6_hold_109 : decode cX6_hold 109 = .ok (.iload_n 3, 1) := by decide +kernel
theorem dX6_hold_110 : decode cX6_hold 110 = .ok (.imul, 1) := by decide +kernel
theorem dX6_hold_111 : decode cX6_hold 111 = .ok (.bipush 10, 2) := by decide +kernel
theorem dX6_hold_113 : decode cX6_hold 113 = .ok (.iload 4, 2) := by decide +kernel
theorem dX6_hold_115 : decode cX6_hold 115 = .ok (.imul, 1) := by decide +kernel
theorem dX6_hold_116 : decode cX6_hold 116 = .ok (.iadd, 1) := by decide +kernel
theorem dX6_hold_117 : decode cX6_hold 117 = .ok (.iload 5, 2) := by decide +kernel
theorem dX6_hold_119 : decode cX6_hold 119 = .ok (.iadd, 1) := by decide +kernel
theorem dX6_hold_120 : decode cX6_hold 120 = .ok (.goto 4, 3) := by decide +kernel
theorem dX6_hold_123 : decode cX6_hold 123 = .ok (.iload_n 1, 1) := by decide +kernel
theorem dX6_hold_124 : decode cX6_hold 124 = .ok (.istore_n 1, 1) := by decide +kernel
theorem dX6_hold_125 : decode cX6_hold 125 = .ok (.iinc 2 1, 3) := by decide +kernel
theorem dX6_hold_128 : decode cX6_hold 128 = .ok (.goto (-104), 3) := by decide +kernel
theorem dX6_hold_131 : decode cX6_hold 131 = .ok (.aload_n 0, 1) := by decide +kernel
theorem dX6_hold_132 : decode cX6_hold 132 = .ok (.iconst 0, 1) := by decide +kernel
theorem dX6_hold_133 : decode cX6_hold 133 = .ok (.putfield 153, 3) := by decide +kernel
theorem dX6_hold_136 : decode cX6_hold 136 = .ok (.aload_n 0, 1) := by decide +kernel
theorem dX6_hold_137 : decode cX6_hold 137 = .ok (.invokevirtual 216, 3) := by decide +kernel
theorem dX6_hold_140 : decode cX6_hold 140 = .ok (.iload_n 1, 1) := by decide +kernel
theorem dX6_hold_141 : decode cX6_hold 141 = .ok (.ireturn, 1) := by decide +kernel
theorem dX6_brings_0 : decode cX6_brings 0 = .ok (.iload_n 1, 1) := by decide +kernel
theorem dX6_brings_1 : decode cX6_brings 1 = .ok (.iload_n 2, 1) := by decide +kernel
theorem dX6_brings_2 : decode cX6_brings 2 = .ok (.invokestatic 179, 3) := by decide +kernel
theorem dX6_brings_5 : decode cX6_brings 5 = .ok (.ifCond .eq 12, 3) := by decide +kernel
theorem dX6_brings_8 : decode cX6_brings 8 = .ok (.iload_n 3, 1) := by decide +kernel
theorem dX6_brings_9 : decode cX6_brings 9 = .ok (.iconst 0, 1) := by decide +kernel
theorem dX6_brings_10 : decode cX6_brings 10 = .ok (.iconst 1, 1) := by decide +kernel
theorem dX6_brings_11 : decode cX6_brings 11 = .ok (.invokestatic 94, 3) := by decide +kernel
theorem dX6_brings_14 : decode cX6_brings 14 = .ok (.ifCond .ne 5, 3) := by decide +kernel
theorem dX6_brings_17 : decode cX6_brings 17 = .ok (.iconst (-1), 1) := by decide +kernel
theorem dX6_brings_18 : decode cX6_brings 18 = .ok (.ireturn, 1) := by decide +kernel
theorem dX6_brings_19 : decode cX6_brings 19 = .ok (.bipush (-4), 2) := by decide +kernel
theorem dX6_brings_21 : decode cX6_brings 21 = .ok (.istore 4, 2) := by decide +kernel
theorem dX6_brings_23 : decode cX6_brings 23 = .ok (.bipush 41, 2) := by decide +kernel
theorem dX6_brings_25 : decode cX6_brings 25 = .ok (.istore 5, 2) := by decide +kernel
theorem dX6_brings_27 : decode cX6_brings 27 = .ok (.aload_n 0, 1) := by decide +kernel
theorem dX6_brings_28 : decode cX6_brings 28 = .ok (.getfield 61, 3) := by decide +kernel
theorem dX6_brings_31 : decode cX6_brings 31 = .ok (.iload_n 1, 1) := by decide +kernel
theorem dX6_brings_32 : decode cX6_brings 32 = .ok (.if_icmp .ne 15, 3) := by decide +kernel
theorem dX6_brings_35 : decode cX6_brings 35 = .ok (.aload_n 0, 1) := by decide +kernel
theorem dX6_brings_36 : decode cX6_brings 36 = .ok (.getfield 65, 3) := by decide +kernel
theorem dX6_brings_39 : decode cX6_brings 39 = .ok (.iload_n 2, 1) := by decide +kernel
theorem dX6_brings_40 : decode cX6_brings 40 = .ok (.if_icmp .ne 7, 3) := by decide +kernel
theorem dX6_brings_43 : decode cX6_brings 43 = .ok (.iconst 1, 1) := by decide +kernel
theorem dX6_brings_44 : decode cX6_brings 44 = .ok (.goto 4, 3) := by decide +kernel
theorem dX6_brings_47 : decode cX6_brings 47 = .ok (.iconst 0, 1) := by decide +kernel
theorem dX6_brings_48 : decode cX6_brings 48 = .ok (.istore 6, 2) := by decide +kernel
theorem dX6_brings_50 : decode cX6_brings 50 = .ok (.iconst 0, 1) := by decide +kernel
theorem dX6_brings_51 : decode cX6_brings 51 = .ok (.istore 7, 2) := by decide +kernel
theorem dX6_brings_53 : decode cX6_brings 53 = .ok (.iload 7, 2) := by decide +kernel
theorem dX6_brings_55 : decode cX6_brings 55 = .ok (.sipush 486, 3) := by decide +kernel
theorem dX6_brings_58 : decode cX6_brings 58 = .ok (.if_icmp .ge 177, 3) := by decide +kernel
theorem dX6_brings_61 : decode cX6_brings 61 = .ok (.iload 6, 2) := by decide +kernel
theorem dX6_brings_63 : decode cX6_brings 63 = .ok (.ifCond .ne 172, 3) := by decide +kernel
theorem dX6_brings_66 : decode cX6_brings 66 = .ok (.aload_n 0, 1) := by decide +kernel
theorem dX6_brings_67 : decode cX6_brings 67 = .ok (.invokevirtual 209, 3) := by decide +kernel
theorem dX6_brings_70 : decode cX6_brings 70 = .ok (.aload_n 0, 1) := by decide +kernel
theorem dX6_brings_71 : decode cX6_brings 71 = .ok (.iconst 1, 1) := by decide +kernel
theorem dX6_brings_72 : decode cX6_brings 72 = .ok (.putfield 153, 3) := by decide +kernel
theorem dX6_brings_75 : decode cX6_brings 75 = .ok (.aload_n 0, 1) := by decide +kernel
theorem dX6_brings_76 : decode cX6_brings 76 = .ok (.aload_n 0, 1) := by decide +kernel
theorem dX6_brings_77 : decode cX6_brings 77 = .ok (.getfield 84, 3) := by decide +kernel
theorem dX6_brings_80 : decode cX6_brings 80 = .ok (.iload 7, 2) := by decide +kernel
theorem dX6_brings_82 : decode cX6_brings 82 = .ok (.bipush 9, 2) := by decide +kernel
theorem dX6_brings_84 : decode cX6_brings 84 = .ok (.irem, 1) := by decide +kernel
theorem dX6_brings_85 : decode cX6_brings 85 = .ok (.iload 7, 2) := by decide +kernel
theorem dX6_brings_87 : decode cX6_brings 87 = .ok (.bipush 9, 2) := by decide +kernel
theorem dX6_brings_89 : decode cX6_brings 89 = .ok (.idiv, 1) := by decide +kernel
theorem dX6_brings_90 : decode cX6_brings 90 = .ok (.bipush 9, 2) := by decide +kernel
theorem dX6_brings_92 : decode cX6_brings 92 = .ok (.irem, 1) := by decide +kernel
theorem dX6_brings_93 : decode cX6_brings 93 = .ok (.iload 7, 2) := by decide +kernel
theorem dX6_brings_95 : decode cX6_brings 95 = .ok (.bipush 81, 2) := by decide +kernel
theorem dX6_brings_97 : decode cX6_brings 97 = .ok (.idiv, 1) := by decide +kernel
theorem dX6_brings_98 : decode cX6_brings 98 = .ok (.invokevirtual 87, 3) := by decide +kernel
theorem dX6_brings_101 : decode cX6_brings 101 = .ok (.iconst 0, 1) := by decide +kernel
theorem dX6_brings_102 : decode cX6_brings 102 = .ok (.istore 8, 2) := by decide +kernel
theorem dX6_brings_104 : decode cX6_brings 104 = .ok (.iload 8, 2) := by decide +kernel
theorem dX6_brings_106 : decode cX6_brings 106 = .ok (.iload 5, 2) := by decide +kernel
theorem dX6_brings_108 : decode cX6_brings 108 = .ok (.if_icmp .ge 30, 3) := by decide +kernel
theorem dX6_brings_111 : decode cX6_brings 111 = .ok (.aload_n 0, 1) := by decide +kernel
theorem dX6_brings_112 : decode cX6_brings 112 = .ok (.getfield 61, 3) := by decide +kernel
theorem dX6_brings_115 : decode cX6_brings 115 = .ok (.iload_n 1, 1) := by decide +kernel
theorem dX6_brings_116 : decode cX6_brings 116 = .ok (.if_icmp .ne 11, 3) := by decide +kernel
theorem dX6_brings_119 : decode cX6_brings 119 = .ok (.aload_n 0, 1) := by decide +kernel
theorem dX6_brings_120 : decode cX6_brings 120 = .ok (.getfield 65, 3) := by decide +kernel
theorem dX6_brings_123 : decode cX6_brings 123 = .ok (.iload_n 2, 1) := by decide +kernel
theorem dX6_brings_124 : decode cX6_brings 124 = .ok (.if_icmp .eq 14, 3) := by decide +kernel
theorem dX6_brings_127 : decode cX6_brings 127 = .ok (.aload_n 0, 1) := by decide +kernel
theorem dX6_brings_128 : decode cX6_brings 128 = .ok (.invokevirtual 186, 3) := by decide +kernel
theorem dX6_brings_131 : decode cX6_brings 131 = .ok (.pop, 1) := by decide +kernel
theorem dX6_brings_132 : decode cX6_brings 132 = .ok (.iinc 8 1, 3) := by decide +kernel
theorem dX6_brings_135 : decode cX6_brings 135 = .ok (.goto (-31), 3) := by decide +kernel
theorem dX6_brings_138 : decode cX6_brings 138 = .ok (.aload_n 0, 1) := by decide +kernel
theorem dX6_brings_139 : decode cX6_brings 139 = .ok (.getfield 61, 3) := by decide +kernel
theorem dX6_brings_142 : decode cX6_brings 142 = .ok (.iload_n 1, 1) := by decide +kernel
theorem dX6_brings_143 : decode cX6_brings 143 = .ok (.if_icmp .ne 22, 3) := by decide +kernel
theorem dX6_brings_146 : decode cX6_brings 146 = .ok (.aload_n 0, 1) := by decide +kernel
theorem dX6_brings_147 : decode cX6_brings 147 = .ok (.getfield 65, 3) := by decide +kernel
theorem dX6_brings_150 : decode cX6_brings 150 = .ok (.iload_n 2, 1) := by decide +kernel
theorem dX6_brings_151 : decode cX6_brings 151 = .ok (.if_icmp .ne 14, 3) := by decide +kernel
theorem dX6_brings_154 : decode cX6_brings 154 = .ok (.iload 8, 2) := by decide +kernel
theorem dX6_brings_156 : decode cX6_brings 156 = .ok (.iload 5, 2) := by decide +kernel
theorem dX6_brings_158 : decode cX6_brings 158 = .ok (.if_icmp .ge 7, 3) := by decide +kernel
theorem dX6_brings_161 : decode cX6_brings 161 = .ok (.iconst 1, 1) := by decide +kernel
theorem dX6_brings_162 : decode cX6_brings 162 = .ok (.goto 4, 3) := by decide +kernel
theorem dX6_brings_165 : decode cX6_brings 165 = .ok (.iconst 0, 1) := by decide +kernel
theorem dX6_brings_166 : decode cX6_brings 166 = .ok (.istore 9, 2) := by decide +kernel
theorem dX6_brings_168 : decode cX6_brings 168 = .ok (.iload 9, 2) := by decide +kernel
theorem dX6_brings_170 : decode cX6_brings 170 = .ok (.ifCond .eq 32, 3) := by decide +kernel
theorem dX6_brings_173 : decode cX6_brings 173 = .ok (.bipush 100, 2) := by decide +kernel
theorem dX6_brings_175 : decode cX6_brings 175 = .ok (.iload 7, 2) := by decide +kernel
theorem dX6_brings_177 : decode cX6_brings 177 = .ok (.bipush 81, 2) := by decide +kernel
theorem dX6_brings_179 : decode cX6_brings 179 = .ok (.idiv, 1) := by decide +kernel
theorem dX6_brings_180 : decode cX6_brings 180 = .ok (.imul, 1) := by decide +kernel
theorem dX6_brings_181 : decode cX6_brings 181 = .ok (.bipush 10, 2) := by decide +kernel
theorem dX6_brings_183 : decode cX6_brings 183 = .ok (.iload 7, 2) := by decide +kernel
theorem dX6_brings_185 : decode cX6_brings 185 = .ok (.bipush 9, 2) := by decide +kernel
theorem dX6_brings_187 : decode cX6_brings 187 = .ok (.idiv, 1) := by decide +kernel
theorem dX6_brings_188 : decode cX6_brings 188 = .ok (.bipush 9, 2) := by decide +kernel
theorem dX6_brings_190 : decode cX6_brings 190 = .ok (.irem, 1) := by decide +kernel
theorem dX6_brings_191 : decode cX6_brings 191 = .ok (.imul, 1) := by decide +kernel
theorem dX6_brings_192 : decode cX6_brings 192 = .ok (.iadd, 1) := by decide +kernel
theorem dX6_brings_193 : decode cX6_brings 193 = .ok (.iload 7, 2) := by decide +kernel
theorem dX6_brings_195 : decode cX6_brings 195 = .ok (.bipush 9, 2) := by decide +kernel
theorem dX6_brings_197 : decode cX6_brings 197 = .ok (.irem, 1) := by decide +kernel
theorem dX6_brings_198 : decode cX6_brings 198 = .ok (.iadd, 1) := by decide +kernel
theorem dX6_brings_199 : decode cX6_brings 199 = .ok (.goto 5, 3) := by decide +kernel
theorem dX6_brings_202 : decode cX6_brings 202 = .ok (.iload 4, 2) := by decide +kernel
theorem dX6_brings_204 : decode cX6_brings 204 = .ok (.istore 4, 2) := by decide +kernel
theorem dX6_brings_206 : decode cX6_brings 206 = .ok (.iload 9, 2) := by decide +kernel
theorem dX6_brings_208 : decode cX6_brings 208 = .ok (.ifCond .eq 8, 3) := by decide +kernel
theorem dX6_brings_211 : decode cX6_brings 211 = .ok (.iload 8, 2) := by decide +kernel
theorem dX6_brings_213 : decode cX6_brings 213 = .ok (.goto 5, 3) := by decide +kernel
theorem dX6_brings_216 : decode cX6_brings 216 = .ok (.iload 5, 2) := by decide +kernel
theorem dX6_brings_218 : decode cX6_brings 218 = .ok (.istore 5, 2) := by decide +kernel
theorem dX6_brings_220 : decode cX6_brings 220 = .ok (.aload_n 0, 1) := by decide +kernel
theorem dX6_brings_221 : decode cX6_brings 221 = .ok (.iconst 0, 1) := by decide +kernel
theorem dX6_brings_222 : decode cX6_brings 222 = .ok (.putfield 153, 3) := by decide +kernel
theorem dX6_brings_225 : decode cX6_brings 225 = .ok (.aload_n 0, 1) := by decide +kernel
theorem dX6_brings_226 : decode cX6_brings 226 = .ok (.invokevirtual 216, 3) := by decide +kernel
theorem dX6_brings_229 : decode cX6_brings 229 = .ok (.iinc 7 1, 3) := by decide +kernel
theorem dX6_brings_232 : decode cX6_brings 232 = .ok (.goto (-179), 3) := by decide +kernel
theorem dX6_brings_235 : decode cX6_brings 235 = .ok (.iload 4, 2) := by decide +kernel
theorem dX6_brings_237 : decode cX6_brings 237 = .ok (.bipush (-4), 2) := by decide +kernel
theorem dX6_brings_239 : decode cX6_brings 239 = .ok (.if_icmp .eq 7, 3) := by decide +kernel
theorem dX6_brings_242 : decode cX6_brings 242 = .ok (.iload_n 3, 1) := by decide +kernel
theorem dX6_brings_243 : decode cX6_brings 243 = .ok (.ifCond .ne 8, 3) := by decide +kernel
theorem dX6_brings_246 : decode cX6_brings 246 = .ok (.iload 4, 2) := by decide +kernel
theorem dX6_brings_248 : decode cX6_brings 248 = .ok (.goto 5, 3) := by decide +kernel
theorem dX6_brings_251 : decode cX6_brings 251 = .ok (.iload 5, 2) := by decide +kernel
theorem dX6_brings_253 : decode cX6_brings 253 = .ok (.ireturn, 1) := by decide +kernel
theorem dX6_endBy_0 : decode cX6_endBy 0 = .ok (.aload_n 0, 1) := by decide +kernel
theorem dX6_endBy_1 : decode cX6_endBy 1 = .ok (.invokevirtual 209, 3) := by decide +kernel
theorem dX6_endBy_4 : decode cX6_endBy 4 = .ok (.iconst 0, 1) := by decide +kernel
theorem dX6_endBy_5 : decode cX6_endBy 5 = .ok (.istore_n 2, 1) := by decide +kernel
theorem dX6_endBy_6 : decode cX6_endBy 6 = .ok (.iload_n 2, 1) := by decide +kernel
theorem dX6_endBy_7 : decode cX6_endBy 7 = .ok (.aload_n 0, 1) := by decide +kernel
theorem dX6_endBy_8 : decode cX6_endBy 8 = .ok (.getfield 84, 3) := by decide +kernel
theorem dX6_endBy_11 : decode cX6_endBy 11 = .ok (.if_icmp .ge 28, 3) := by decide +kernel
theorem dX6_endBy_14 : decode cX6_endBy 14 = .ok (.aload_n 0, 1) := by decide +kernel
theorem dX6_endBy_15 : decode cX6_endBy 15 = .ok (.getfield 28, 3) := by decide +kernel
theorem dX6_endBy_18 : decode cX6_endBy 18 = .ok (.iload_n 2, 1) := by decide +kernel
theorem dX6_endBy_19 : decode cX6_endBy 19 = .ok (.iload_n 1, 1) := by decide +kernel
theorem dX6_endBy_20 : decode cX6_endBy 20 = .ok (.iload_n 2, 1) := by decide +kernel
theorem dX6_endBy_21 : decode cX6_endBy 21 = .ok (.invokestatic 219, 3) := by decide +kernel
theorem dX6_endBy_24 : decode cX6_endBy 24 = .ok (.ifCond .eq 7, 3) := by decide +kernel
theorem dX6_endBy_27 : decode cX6_endBy 27 = .ok (.iconst 0, 1) := by decide +kernel
theorem dX6_endBy_28 : decode cX6_endBy 28 = .ok (.goto 4, 3) := by decide +kernel
theorem dX6_endBy_31 : decode cX6_endBy 31 = .ok (.iconst 1, 1) := by decide +kernel
theorem dX6_endBy_32 : decode cX6_endBy 32 = .ok (.iastore, 1) := by decide +kernel
theorem dX6_endBy_33 : decode cX6_endBy 33 = .ok (.iinc 2 1, 3) := by decide +kernel
theorem dX6_endBy_36 : decode cX6_endBy 36 = .ok (.goto (-30), 3) := by decide +kernel
theorem dX6_endBy_39 : decode cX6_endBy 39 = .ok (.aload_n 0, 1) := by decide +kernel
theorem dX6_endBy_40 : decode cX6_endBy 40 = .ok (.bipush 10, 2) := by decide +kernel
theorem dX6_endBy_42 : decode cX6_endBy 42 = .ok (.invokevirtual 212, 3) := by decide +kernel
theorem dX6_endBy_45 : decode cX6_endBy 45 = .ok (.bipush 9, 2) := by decide +kernel
theorem dX6_endBy_47 : decode cX6_endBy 47 = .ok (.aload_n 0, 1) := by decide +kernel
theorem dX6_endBy_48 : decode cX6_endBy 48 = .ok (.getfield 65, 3) := by decide +kernel
theorem dX6_endBy_51 : decode cX6_endBy 51 = .ok (.imul, 1) := by decide +kernel
theorem dX6_endBy_52 : decode cX6_endBy 52 = .ok (.aload_n 0, 1) := by decide +kernel
theorem dX6_endBy_53 : decode cX6_endBy 53 = .ok (.getfield 61, 3) := by decide +kernel
theorem dX6_endBy_56 : decode cX6_endBy 56 = .ok (.iadd, 1) := by decide +kernel
theorem dX6_endBy_57 : decode cX6_endBy 57 = .ok (.istore_n 2, 1) := by decide +kernel
theorem dX6_endBy_58 : decode cX6_endBy 58 = .ok (.aload_n 0, 1) := by decide +kernel
theorem dX6_endBy_59 : decode cX6_endBy 59 = .ok (.invokevirtual 216, 3) := by decide +kernel
theorem dX6_endBy_62 : decode cX6_endBy 62 = .ok (.iload_n 2, 1) := by decide +kernel
theorem dX6_endBy_63 : decode cX6_endBy 63 = .ok (.ireturn, 1) := by decide +kernel
theorem dX6_keeps_0 : decode cX6_keeps 0 = .ok (.iload_n 1, 1) := by decide +kernel
theorem dX6_keeps_1 : decode cX6_keeps 1 = .ok (.iconst 0, 1) := by decide +kernel
theorem dX6_keeps_2 : decode cX6_keeps 2 = .ok (.iconst 1, 1) := by decide +kernel
theorem dX6_keeps_3 : decode cX6_keeps 3 = .ok (.invokestatic 94, 3) := by decide +kernel
theorem dX6_keeps_6 : decode cX6_keeps 6 = .ok (.ifCond .ne 5, 3) := by decide +kernel
theorem dX6_keeps_9 : decode cX6_keeps 9 = .ok (.iconst (-1), 1) := by decide +kernel
theorem dX6_keeps_10 : decode cX6_keeps 10 = .ok (.ireturn, 1) := by decide +kernel
theorem dX6_keeps_11 : decode cX6_keeps 11 = .ok (.iconst 0, 1) := by decide +kernel
theorem dX6_keeps_12 : decode cX6_keeps 12 = .ok (.istore_n 2, 1) := by decide +kernel
theorem dX6_keeps_13 : decode cX6_keeps 13 = .ok (.iconst 0, 1) := by decide +kernel
theorem dX6_keeps_14 : decode cX6_keeps 14 = .ok (.istore_n 3, 1) := by decide +kernel
theorem dX6_keeps_15 : decode cX6_keeps 15 = .ok (.iload_n 3, 1) := by decide +kernel
theorem dX6_keeps_16 : decode cX6_keeps 16 = .ok (.aload_n 0, 1) := by decide +kernel
theorem dX6_keeps_17 : decode cX6_keeps 17 = .ok (.getfield 84, 3) := by decide +kernel
theorem dX6_keeps_20 : decode cX6_keeps 20 = .ok (.if_icmp .ge 28, 3) := by decide +kernel
theorem dX6_keeps_23 : decode cX6_keeps 23 = .ok (.iload_n 2, 1) := by decide +kernel
theorem dX6_keeps_24 : decode cX6_keeps 24 = .ok (.aload_n 0, 1) := by decide +kernel
theorem dX6_keeps_25 : decode cX6_keeps 25 = .ok (.getfield 28, 3) := by decide +kernel
theorem dX6_keeps_28 : decode cX6_keeps 28 = .ok (.iload_n 3, 1) := by decide +kernel
theorem dX6_keeps_29 : decode cX6_keeps 29 = .ok (.iaload, 1) := by decide +kernel
theorem dX6_keeps_30 : decode cX6_keeps 30 = .ok (.ifCond .ne 9, 3) := by decide +kernel
theorem dX6_keeps_33 : decode cX6_keeps 33 = .ok (.iconst 1, 1) := by decide +kernel
theorem dX6_keeps_34 : decode cX6_keeps 34 = .ok (.iload_n 3, 1) := by decide +kernel
theorem dX6_keeps_35 : decode cX6_keeps 35 = .ok (.ishl, 1) := by decide +kernel
theorem dX6_keeps_36 : decode cX6_keeps 36 = .ok (.goto 4, 3) := by decide +kernel
theorem dX6_keeps_39 : decode cX6_keeps 39 = .ok (.iconst 0, 1) := by decide +kernel
theorem dX6_keeps_40 : decode cX6_keeps 40 = .ok (.ior, 1) := by decide +kernel
theorem dX6_keeps_41 : decode cX6_keeps 41 = .ok (.istore_n 2, 1) := by decide +kernel
theorem dX6_keeps_42 : decode cX6_keeps 42 = .ok (.iinc 3 1, 3) := by decide +kernel
theorem dX6_keeps_45 : decode cX6_keeps 45 = .ok (.goto (-30), 3) := by decide +kernel
theorem dX6_keeps_48 : decode cX6_keeps 48 = .ok (.aload_n 0, 1) := by decide +kernel
theorem dX6_keeps_49 : decode cX6_keeps 49 = .ok (.iload_n 2, 1) := by decide +kernel
theorem dX6_keeps_50 : decode cX6_keeps 50 = .ok (.invokevirtual 222, 3) := by decide +kernel
theorem dX6_keeps_53 : decode cX6_keeps 53 = .ok (.istore_n 3, 1) := by decide +kernel
theorem dX6_keeps_54 : decode cX6_keeps 54 = .ok (.iload_n 2, 1) := by decide +kernel
theorem dX6_keeps_55 : decode cX6_keeps 55 = .ok (.istore 4, 2) := by decide +kernel
theorem dX6_keeps_57 : decode cX6_keeps 57 = .ok (.iload_n 2, 1) := by decide +kernel
theorem dX6_keeps_58 : decode cX6_keeps 58 = .ok (.istore 5, 2) := by decide +kernel
theorem dX6_keeps_60 : decode cX6_keeps 60 = .ok (.iload 5, 2) := by decide +kernel
theorem dX6_keeps_62 : decode cX6_keeps 62 = .ok (.ifCond .lt 62, 3) := by decide +kernel
theorem dX6_keeps_65 : decode cX6_keeps 65 = .ok (.iload 5, 2) := by decide +kernel
theorem dX6_keeps_67 : decode cX6_keeps 67 = .ok (.iload_n 2, 1) := by decide +kernel
theorem dX6_keeps_68 : decode cX6_keeps 68 = .ok (.iconst (-1), 1) := by decide +kernel
theorem dX6_keeps_69 : decode cX6_keeps 69 = .ok (.ixor, 1) := by decide +kernel
theorem dX6_keeps_70 : decode cX6_keeps 70 = .ok (.iand, 1) := by decide +kernel
theorem dX6_keeps_71 : decode cX6_keeps 71 = .ok (.ifCond .ne 20, 3) := by decide +kernel
theorem dX6_keeps_74 : decode cX6_keeps 74 = .ok (.iload 5, 2) := by decide +kernel
theorem dX6_keeps_76 : decode cX6_keeps 76 = .ok (.invokestatic 225, 3) := by decide +kernel
theorem dX6_keeps_79 : decode cX6_keeps 79 = .ok (.iload 4, 2) := by decide +kernel
theorem dX6_keeps_81 : decode cX6_keeps 81 = .ok (.invokestatic 225, 3) := by decide +kernel
theorem dX6_keeps_84 : decode cX6_keeps 84 = .ok (.if_icmp .gt 7, 3) := by decide +kernel
theorem dX6_keeps_87 : decode cX6_keeps 87 = .ok (.iconst 1, 1) := by decide +kernel
theorem dX6_keeps_88 : decode cX6_keeps 88 = .ok (.goto 4, 3) := by decide +kernel
theorem dX6_keeps_91 : decode cX6_keeps 91 = .ok (.iconst 0, 1) := by decide +kernel
theorem dX6_keeps_92 : decode cX6_keeps 92 = .ok (.istore 6, 2) := by decide +kernel
theorem dX6_keeps_94 : decode cX6_keeps 94 = .ok (.iload 6, 2) := by decide +kernel
theorem dX6_keeps_96 : decode cX6_keeps 96 = .ok (.ifCond .eq 18, 3) := by decide +kernel
theorem dX6_keeps_99 : decode cX6_keeps 99 = .ok (.aload_n 0, 1) := by decide +kernel
theorem dX6_keeps_100 : decode cX6_keeps 100 = .ok (.iload 5, 2) := by decide +kernel
theorem dX6_keeps_102 : decode cX6_keeps 102 = .ok (.invokevirtual 222, 3) := by decide +kernel
theorem dX6_keeps_105 : decode cX6_keeps 105 = .ok (.iload_n 3, 1) := by decide +kernel
theorem dX6_keeps_106 : decode cX6_keeps 106 = .ok (.if_icmp .ne 8, 3) := by decide +kernel
theorem dX6_keeps_109 : decode cX6_keeps 109 = .ok (.iload 5, 2) := by decide +kernel
theorem dX6_keeps_111 : decode cX6_keeps 111 = .ok (.goto 5, 3) := by decide +kernel
theorem dX6_keeps_114 : decode cX6_keeps 114 = .ok (.iload 4, 2) := by decide +kernel
theorem dX6_keeps_116 : decode cX6_keeps 116 = .ok (.istore 4, 2) := by decide +kernel
theorem dX6_keeps_118 : decode cX6_keeps 118 = .ok (.iinc 5 (-1), 3) := by decide +kernel
theorem dX6_keeps_121 : decode cX6_keeps 121 = .ok (.goto (-61), 3) := by decide +kernel
theorem dX6_keeps_124 : decode cX6_keeps 124 = .ok (.iload_n 1, 1) := by decide +kernel
theorem dX6_keeps_125 : decode cX6_keeps 125 = .ok (.ifCond .ne 11, 3) := by decide +kernel
theorem dX6_keeps_128 : decode cX6_keeps 128 = .ok (.iload 4, 2) := by decide +kernel
theorem dX6_keeps_130 : decode cX6_keeps 130 = .ok (.invokestatic 225, 3) := by decide +kernel
theorem dX6_keeps_133 : decode cX6_keeps 133 = .ok (.goto 5, 3) := by decide +kernel
theorem dX6_keeps_136 : decode cX6_keeps 136 = .ok (.iload 4, 2) := by decide +kernel
theorem dX6_keeps_138 : decode cX6_keeps 138 = .ok (.ireturn, 1) := by decide +kernel
theorem dX6_instead_0 : decode cX6_instead 0 = .ok (.bipush (-4), 2) := by decide +kernel
theorem dX6_instead_2 : decode cX6_instead 2 = .ok (.istore_n 1, 1) := by decide +kernel
theorem dX6_instead_3 : decode cX6_instead 3 = .ok (.iconst 0, 1) := by decide +kernel
theorem dX6_instead_4 : decode cX6_instead 4 = .ok (.istore_n 2, 1) := by decide +kernel
theorem dX6_instead_5 : decode cX6_instead 5 = .ok (.iload_n 2, 1) := by decide +kernel
theorem dX6_instead_6 : decode cX6_instead 6 = .ok (.aload_n 0, 1) := by decide +kernel
theorem dX6_instead_7 : decode cX6_instead 7 = .ok (.getfield 84, 3) := by decide +kernel
theorem dX6_instead_10 : decode cX6_instead 10 = .ok (.if_icmp .ge 93, 3) := by decide +kernel
theorem dX6_instead_13 : decode cX6_instead 13 = .ok (.iload_n 1, 1) := by decide +kernel
theorem dX6_instead_14 : decode cX6_instead 14 = .ok (.bipush (-4), 2) := by decide +kernel
theorem dX6_instead_16 : decode cX6_instead 16 = .ok (.if_icmp .ne 87, 3) := by decide +kernel
theorem dX6_instead_19 : decode cX6_instead 19 = .ok (.aload_n 0, 1) := by decide +kernel
theorem dX6_instead_20 : decode cX6_instead 20 = .ok (.getfield 25, 3) := by decide +kernel
theorem dX6_instead_23 : decode cX6_instead 23 = .ok (.iload_n 2, 1) := by decide +kernel
theorem dX6_instead_24 : decode cX6_instead 24 = .ok (.iaload, 1) := by decide +kernel
theorem dX6_instead_25 : decode cX6_instead 25 = .ok (.istore_n 3, 1) := by decide +kernel
theorem dX6_instead_26 : decode cX6_instead 26 = .ok (.iconst 0, 1) := by decide +kernel
theorem dX6_instead_27 : decode cX6_instead 27 = .ok (.istore 4, 2) := by decide +kernel
theorem dX6_instead_29 : decode cX6_instead 29 = .ok (.iload 4, 2) := by decide +kernel
theorem dX6_instead_31 : decode cX6_instead 31 = .ok (.bipush 6, 2) := by decide +kernel
theorem dX6_instead_33 : decode cX6_instead 33 = .ok (.if_icmp .ge 57, 3) := by decide +kernel
theorem dX6_instead_36 : decode cX6_instead 36 = .ok (.iload_n 1, 1) := by decide +kernel
theorem dX6_instead_37 : decode cX6_instead 37 = .ok (.bipush (-4), 2) := by decide +kernel
theorem dX6_instead_39 : decode cX6_instead 39 = .ok (.if_icmp .ne 51, 3) := by decide +kernel
theorem dX6_instead_42 : decode cX6_instead 42 = .ok (.aload_n 0, 1) := by decide +kernel
theorem dX6_instead_43 : decode cX6_instead 43 = .ok (.getfield 28, 3) := by decide +kernel
theorem dX6_instead_46 : decode cX6_instead 46 = .ok (.iload_n 2, 1) := by decide +kernel
theorem dX6_instead_47 : decode cX6_instead 47 = .ok (.iaload, 1) := by decide +kernel
theorem dX6_instead_48 : decode cX6_instead 48 = .ok (.ifCond .ne 42, 3) := by decide +kernel
theorem dX6_instead_51 : decode cX6_instead 51 = .ok (.aload_n 0, 1) := by decide +kernel
theorem dX6_instead_52 : decode cX6_instead 52 = .ok (.getfield 25, 3) := by decide +kernel
theorem dX6_instead_55 : decode cX6_instead 55 = .ok (.iload_n 2, 1) := by decide +kernel
theorem dX6_instead_56 : decode cX6_instead 56 = .ok (.iload 4, 2) := by decide +kernel
theorem dX6_instead_58 : decode cX6_instead 58 = .ok (.iastore, 1) := by decide +kernel
theorem dX6_instead_59 : decode cX6_instead 59 = .ok (.iload 4, 2) := by decide +kernel
theorem dX6_instead_61 : decode cX6_instead 61 = .ok (.iload_n 3, 1) := by decide +kernel
theorem dX6_instead_62 : decode cX6_instead 62 = .ok (.if_icmp .eq 20, 3) := by decide +kernel
theorem dX6_instead_65 : decode cX6_instead 65 = .ok (.aload_n 0, 1) := by decide +kernel
theorem dX6_instead_66 : decode cX6_instead 66 = .ok (.invokevirtual 183, 3) := by decide +kernel
theorem dX6_instead_69 : decode cX6_instead 69 = .ok (.ifCond .ne 13, 3) := by decide +kernel
theorem dX6_instead_72 : decode cX6_instead 72 = .ok (.bipush 10, 2) := by decide +kernel
theorem dX6_instead_74 : decode cX6_instead 74 = .ok (.iload_n 2, 1) := by decide +kernel
theorem dX6_instead_75 : decode cX6_instead 75 = .ok (.imul, 1) := by decide +kernel
theorem dX6_instead_76 : decode cX6_instead 76 = .ok (.iload 4, 2) := by decide +kernel
theorem dX6_instead_78 : decode cX6_instead 78 = .ok (.iadd, 1) := by decide +kernel
theorem dX6_instead_79 : decode cX6_instead 79 = .ok (.goto 4, 3) := by decide +kernel
theorem dX6_instead_82 : decode cX6_instead 82 = .ok (.iload_n 1, 1) := by decide +kernel
theorem dX6_instead_83 : decode cX6_instead 83 = .ok (.istore_n 1, 1) := by decide +kernel
theorem dX6_instead_84 : decode cX6_instead 84 = .ok (.iinc 4 1, 3) := by decide +kernel
theorem dX6_instead_87 : decode cX6_instead 87 = .ok (.goto (-58), 3) := by decide +kernel
theorem dX6_instead_90 : decode cX6_instead 90 = .ok (.aload_n 0, 1) := by decide +kernel
theorem dX6_instead_91 : decode cX6_instead 91 = .ok (.getfield 25, 3) := by decide +kernel
theorem dX6_instead_94 : decode cX6_instead 94 = .ok (.iload_n 2, 1) := by decide +kernel
theorem dX6_instead_95 : decode cX6_instead 95 = .ok (.iload_n 3, 1) := by decide +kernel
theorem dX6_instead_96 : decode cX6_instead 96 = .ok (.iastore, 1) := by decide +kernel
theorem dX6_instead_97 : decode cX6_instead 97 = .ok (.iinc 2 1, 3) := by decide +kernel
theorem dX6_instead_100 : decode cX6_instead 100 = .ok (.goto (-95), 3) := by decide +kernel
theorem dX6_instead_103 : decode cX6_instead 103 = .ok (.iload_n 1, 1) := by decide +kernel
theorem dX6_instead_104 : decode cX6_instead 104 = .ok (.ireturn, 1) := by decide +kernel
theorem dX6_seen_0 : decode cX6_seen 0 = .ok (.iload_n 1, 1) := by decide +kernel
theorem dX6_seen_1 : decode cX6_seen 1 = .ok (.iload_n 2, 1) := by decide +kernel
theorem dX6_seen_2 : decode cX6_seen 2 = .ok (.invokestatic 179, 3) := by decide +kernel
theorem dX6_seen_5 : decode cX6_seen 5 = .ok (.ifCond .eq 12, 3) := by decide +kernel
theorem dX6_seen_8 : decode cX6_seen 8 = .ok (.iload_n 3, 1) := by decide +kernel
theorem dX6_seen_9 : decode cX6_seen 9 = .ok (.iconst 0, 1) := by decide +kernel
theorem dX6_seen_10 : decode cX6_seen 10 = .ok (.iconst 4, 1) := by decide +kernel
theorem dX6_seen_11 : decode cX6_seen 11 = .ok (.invokestatic 94, 3) := by decide +kernel
theorem dX6_seen_14 : decode cX6_seen 14 = .ok (.ifCond .ne 5, 3) := by decide +kernel
theorem dX6_seen_17 : decode cX6_seen 17 = .ok (.iconst (-1), 1) := by decide +kernel
theorem dX6_seen_18 : decode cX6_seen 18 = .ok (.ireturn, 1) := by decide +kernel
theorem dX6_seen_19 : decode cX6_seen 19 = .ok (.aload_n 0, 1) := by decide +kernel
theorem dX6_seen_20 : decode cX6_seen 20 = .ok (.getfield 140, 3) := by decide +kernel
theorem dX6_seen_23 : decode cX6_seen 23 = .ok (.bipush 6, 2) := by decide +kernel
theorem dX6_seen_25 : decode cX6_seen 25 = .ok (.if_icmp .ne 6, 3) := by decide +kernel
theorem dX6_seen_28 : decode cX6_seen 28 = .ok (.bipush (-3), 2) := by decide +kernel
theorem dX6_seen_30 : decode cX6_seen 30 = .ok (.ireturn, 1) := by decide +kernel
theorem dX6_seen_31 : decode cX6_seen 31 = .ok (.aload_n 0, 1) := by decide +kernel
theorem dX6_seen_32 : decode cX6_seen 32 = .ok (.getfield 31, 3) := by decide +kernel
theorem dX6_seen_35 : decode cX6_seen 35 = .ok (.aload_n 0, 1) := by decide +kernel
theorem dX6_seen_36 : decode cX6_seen 36 = .ok (.getfield 140, 3) := by decide +kernel
theorem dX6_seen_39 : decode cX6_seen 39 = .ok (.iload_n 1, 1) := by decide +kernel
theorem dX6_seen_40 : decode cX6_seen 40 = .ok (.iastore, 1) := by decide +kernel
theorem dX6_seen_41 : decode cX6_seen 41 = .ok (.aload_n 0, 1) := by decide +kernel
theorem dX6_seen_42 : decode cX6_seen 42 = .ok (.getfield 34, 3) := by decide +kernel
theorem dX6_seen_45 : decode cX6_seen 45 = .ok (.aload_n 0, 1) := by decide +kernel
theorem dX6_seen_46 : decode cX6_seen 46 = .ok (.getfield 140, 3) := by decide +kernel
theorem dX6_seen_49 : decode cX6_seen 49 = .ok (.iload_n 2, 1) := by decide +kernel
theorem dX6_seen_50 : decode cX6_seen 50 = .ok (.iastore, 1) := by decide +kernel
theorem dX6_seen_51 : decode cX6_seen 51 = .ok (.aload_n 0, 1) := by decide +kernel
theorem dX6_seen_52 : decode cX6_seen 52 = .ok (.getfield 37, 3) := by decide +kernel
theorem dX6_seen_55 : decode cX6_seen 55 = .ok (.aload_n 0, 1) := by decide +kernel
theorem dX6_seen_56 : decode cX6_seen 56 = .ok (.getfield 140, 3) := by decide +kernel
theorem dX6_seen_59 : decode cX6_seen 59 = .ok (.iload_n 3, 1) := by decide +kernel
theorem dX6_seen_60 : decode cX6_seen 60 = .ok (.iastore, 1) := by decide +kernel
theorem dX6_seen_61 : decode cX6_seen 61 = .ok (.aload_n 0, 1) := by decide +kernel
theorem dX6_seen_62 : decode cX6_seen 62 = .ok (.dup, 1) := by decide +kernel
theorem dX6_seen_63 : decode cX6_seen 63 = .ok (.getfield 140, 3) := by decide +kernel
theorem dX6_seen_66 : decode cX6_seen 66 = .ok (.iconst 1, 1) := by decide +kernel
theorem dX6_seen_67 : decode cX6_seen 67 = .ok (.iadd, 1) := by decide +kernel
theorem dX6_seen_68 : decode cX6_seen 68 = .ok (.putfield 140, 3) := by decide +kernel
theorem dX6_seen_71 : decode cX6_seen 71 = .ok (.aload_n 0, 1) := by decide +kernel
theorem dX6_seen_72 : decode cX6_seen 72 = .ok (.getfield 140, 3) := by decide +kernel
theorem dX6_seen_75 : decode cX6_seen 75 = .ok (.ireturn, 1) := by decide +kernel
theorem dX6_forget_0 : decode cX6_forget 0 = .ok (.aload_n 0, 1) := by decide +kernel
theorem dX6_forget_1 : decode cX6_forget 1 = .ok (.getfield 140, 3) := by decide +kernel
theorem dX6_forget_4 : decode cX6_forget 4 = .ok (.istore_n 1, 1) := by decide +kernel
theorem dX6_forget_5 : decode cX6_forget 5 = .ok (.aload_n 0, 1) := by decide +kernel
theorem dX6_forget_6 : decode cX6_forget 6 = .ok (.iconst 0, 1) := by decide +kernel
theorem dX6_forget_7 : decode cX6_forget 7 = .ok (.putfield 140, 3) := by decide +kernel
theorem dX6_forget_10 : decode cX6_forget 10 = .ok (.iload_n 1, 1) := by decide +kernel
theorem dX6_forget_11 : decode cX6_forget 11 = .ok (.ireturn, 1) := by decide +kernel
theorem dX6_isSo_0 : decode cX6_isSo 0 = .ok (.aload_n 0, 1) := by decide +kernel
theorem dX6_isSo_1 : decode cX6_isSo 1 = .ok (.getfield 61, 3) := by decide +kernel
theorem dX6_isSo_4 : decode cX6_isSo 4 = .ok (.istore_n 1, 1) := by decide +kernel
theorem dX6_isSo_5 : decode cX6_isSo 5 = .ok (.aload_n 0, 1) := by decide +kernel
theorem dX6_isSo_6 : decode cX6_isSo 6 = .ok (.getfield 65, 3) := by decide +kernel
theorem dX6_isSo_9 : decode cX6_isSo 9 = .ok (.istore_n 2, 1) := by decide +kernel
theorem dX6_isSo_10 : decode cX6_isSo 10 = .ok (.iconst 1, 1) := by decide +kernel
theorem dX6_isSo_11 : decode cX6_isSo 11 = .ok (.istore_n 3, 1) := by decide +kernel
theorem dX6_isSo_12 : decode cX6_isSo 12 = .ok (.iconst 0, 1) := by decide +kernel
theorem dX6_isSo_13 : decode cX6_isSo 13 = .ok (.istore 4, 2) := by decide +kernel
theorem dX6_isSo_15 : decode cX6_isSo 15 = .ok (.iload 4, 2) := by decide +kernel
theorem dX6_isSo_17 : decode cX6_isSo 17 = .ok (.aload_n 0, 1) := by decide +kernel
theorem dX6_isSo_18 : decode cX6_isSo 18 = .ok (.getfield 140, 3) := by decide +kernel
theorem dX6_isSo_21 : decode cX6_isSo 21 = .ok (.if_icmp .ge 55, 3) := by decide +kernel
theorem dX6_isSo_24 : decode cX6_isSo 24 = .ok (.aload_n 0, 1) := by decide +kernel
theorem dX6_isSo_25 : decode cX6_isSo 25 = .ok (.aload_n 0, 1) := by decide +kernel
theorem dX6_isSo_26 : decode cX6_isSo 26 = .ok (.getfield 31, 3) := by decide +kernel
theorem dX6_isSo_29 : decode cX6_isSo 29 = .ok (.iload 4, 2) := by decide +kernel
theorem dX6_isSo_31 : decode cX6_isSo 31 = .ok (.iaload, 1) := by decide +kernel
theorem dX6_isSo_32 : decode cX6_isSo 32 = .ok (.putfield 61, 3) := by decide +kernel
theorem dX6_isSo_35 : decode cX6_isSo 35 = .ok (.aload_n 0, 1) := by decide +kernel
theorem dX6_isSo_36 : decode cX6_isSo 36 = .ok (.aload_n 0, 1) := by decide +kernel
theorem dX6_isSo_37 : decode cX6_isSo 37 = .ok (.getfield 34, 3) := by decide +kernel
theorem dX6_isSo_40 : decode cX6_isSo 40 = .ok (.iload 4, 2) := by decide +kernel
theorem dX6_isSo_42 : decode cX6_isSo 42 = .ok (.iaload, 1) := by decide +kernel
theorem dX6_isSo_43 : decode cX6_isSo 43 = .ok (.putfield 65, 3) := by decide +kernel
theorem dX6_isSo_46 : decode cX6_isSo 46 = .ok (.iload_n 3, 1) := by decide +kernel
theorem dX6_isSo_47 : decode cX6_isSo 47 = .ok (.ifCond .eq 21, 3) := by decide +kernel
theorem dX6_isSo_50 : decode cX6_isSo 50 = .ok (.aload_n 0, 1) := by decide +kernel
theorem dX6_isSo_51 : decode cX6_isSo 51 = .ok (.invokevirtual 183, 3) := by decide +kernel
theorem dX6_isSo_54 : decode cX6_isSo 54 = .ok (.aload_n 0, 1) := by decide +kernel
theorem dX6_isSo_55 : decode cX6_isSo 55 = .ok (.getfield 37, 3) := by decide +kernel
theorem dX6_isSo_58 : decode cX6_isSo 58 = .ok (.iload 4, 2) := by decide +kernel
theorem dX6_isSo_60 : decode cX6_isSo 60 = .ok (.iaload, 1) := by decide +kernel
theorem dX6_isSo_61 : decode cX6_isSo 61 = .ok (.if_icmp .ne 7, 3) := by decide +kernel
theorem dX6_isSo_64 : decode cX6_isSo 64 = .ok (.iconst 1, 1) := by decide +kernel
theorem dX6_isSo_65 : decode cX6_isSo 65 = .ok (.goto 4, 3) := by decide +kernel
theorem dX6_isSo_68 : decode cX6_isSo 68 = .ok (.iconst 0, 1) := by decide +kernel
theorem dX6_isSo_69 : decode cX6_isSo 69 = .ok (.istore_n 3, 1) := by decide +kernel
theorem dX6_isSo_70 : decode cX6_isSo 70 = .ok (.iinc 4 1, 3) := by decide +kernel
theorem dX6_isSo_73 : decode cX6_isSo 73 = .ok (.goto (-58), 3) := by decide +kernel
theorem dX6_isSo_76 : decode cX6_isSo 76 = .ok (.aload_n 0, 1) := by decide +kernel
theorem dX6_isSo_77 : decode cX6_isSo 77 = .ok (.iload_n 1, 1) := by decide +kernel
theorem dX6_isSo_78 : decode cX6_isSo 78 = .ok (.putfield 61, 3) := by decide +kernel
theorem dX6_isSo_81 : decode cX6_isSo 81 = .ok (.aload_n 0, 1) := by decide +kernel
theorem dX6_isSo_82 : decode cX6_isSo 82 = .ok (.iload_n 2, 1) := by decide +kernel
theorem dX6_isSo_83 : decode cX6_isSo 83 = .ok (.putfield 65, 3) := by decide +kernel
theorem dX6_isSo_86 : decode cX6_isSo 86 = .ok (.iload_n 3, 1) := by decide +kernel
theorem dX6_isSo_87 : decode cX6_isSo 87 = .ok (.ireturn, 1) := by decide +kernel
theorem dX6_may_0 : decode cX6_may 0 = .ok (.aload_n 0, 1) := by decide +kernel
theorem dX6_may_1 : decode cX6_may 1 = .ok (.iload_n 1, 1) := by decide +kernel
theorem dX6_may_2 : decode cX6_may 2 = .ok (.invokevirtual 193, 3) := by decide +kernel
theorem dX6_may_5 : decode cX6_may 5 = .ok (.ifCond .eq 12, 3) := by decide +kernel
theorem dX6_may_8 : decode cX6_may 8 = .ok (.iload_n 2, 1) := by decide +kernel
theorem dX6_may_9 : decode cX6_may 9 = .ok (.iconst 0, 1) := by decide +kernel
theorem dX6_may_10 : decode cX6_may 10 = .ok (.iconst 2, 1) := by decide +kernel
theorem dX6_may_11 : decode cX6_may 11 = .ok (.invokestatic 94, 3) := by decide +kernel
theorem dX6_may_14 : decode cX6_may 14 = .ok (.ifCond .ne 5, 3) := by decide +kernel
theorem dX6_may_17 : decode cX6_may 17 = .ok (.iconst (-1), 1) := by decide +kernel
theorem dX6_may_18 : decode cX6_may 18 = .ok (.ireturn, 1) := by decide +kernel
theorem dX6_may_19 : decode cX6_may 19 = .ok (.aload_n 0, 1) := by decide +kernel
theorem dX6_may_20 : decode cX6_may 20 = .ok (.getfield 9, 3) := by decide +kernel
theorem dX6_may_23 : decode cX6_may 23 = .ok (.iload_n 1, 1) := by decide +kernel
theorem dX6_may_24 : decode cX6_may 24 = .ok (.iaload, 1) := by decide +kernel
theorem dX6_may_25 : decode cX6_may 25 = .ok (.istore_n 3, 1) := by decide +kernel
theorem dX6_may_26 : decode cX6_may 26 = .ok (.aload_n 0, 1) := by decide +kernel
theorem dX6_may_27 : decode cX6_may 27 = .ok (.getfield 13, 3) := by decide +kernel
theorem dX6_may_30 : decode cX6_may 30 = .ok (.iload_n 1, 1) := by decide +kernel
theorem dX6_may_31 : decode cX6_may 31 = .ok (.iaload, 1) := by decide +kernel
theorem dX6_may_32 : decode cX6_may 32 = .ok (.istore 4, 2) := by decide +kernel
theorem dX6_may_34 : decode cX6_may 34 = .ok (.aload_n 0, 1) := by decide +kernel
theorem dX6_may_35 : decode cX6_may 35 = .ok (.getfield 16, 3) := by decide +kernel
theorem dX6_may_38 : decode cX6_may 38 = .ok (.iload_n 1, 1) := by decide +kernel
theorem dX6_may_39 : decode cX6_may 39 = .ok (.iaload, 1) := by decide +kernel
theorem dX6_may_40 : decode cX6_may 40 = .ok (.istore 5, 2) := by decide +kernel
theorem dX6_may_42 : decode cX6_may 42 = .ok (.iconst 0, 1) := by decide +kernel
theorem dX6_may_43 : decode cX6_may 43 = .ok (.istore 6, 2) := by decide +kernel
theorem dX6_may_45 : decode cX6_may 45 = .ok (.iload_n 2, 1) := by decide +kernel
theorem dX6_may_46 : decode cX6_may 46 = .ok (.ifCond .ne 7, 3) := by decide +kernel
theorem dX6_may_49 : decode cX6_may 49 = .ok (.iconst 1, 1) := by decide +kernel
theorem dX6_may_50 : decode cX6_may 50 = .ok (.goto 4, 3) := by decide +kernel
theorem dX6_may_53 : decode cX6_may 53 = .ok (.iconst 0, 1) := by decide +kernel
theorem dX6_may_54 : decode cX6_may 54 = .ok (.istore 7, 2) := by decide +kernel
theorem dX6_may_56 : decode cX6_may 56 = .ok (.iload_n 2, 1) := by decide +kernel
theorem dX6_may_57 : decode cX6_may 57 = .ok (.ifCond .ne 8, 3) := by decide +kernel
theorem dX6_may_60 : decode cX6_may 60 = .ok (.bipush 9, 2) := by decide +kernel
theorem dX6_may_62 : decode cX6_may 62 = .ok (.goto 13, 3) := by decide +kernel
theorem dX6_may_65 : decode cX6_may 65 = .ok (.iload_n 2, 1) := by decide +kernel
theorem dX6_may_66 : decode cX6_may 66 = .ok (.iconst 1, 1) := by decide +kernel
theorem dX6_may_67 : decode cX6_may 67 = .ok (.if_icmp .ne 7, 3) := by decide +kernel
theorem dX6_may_70 : decode cX6_may 70 = .ok (.iconst 5, 1) := by decide +kernel
theorem dX6_may_71 : decode cX6_may 71 = .ok (.goto 4, 3) := by decide +kernel
theorem dX6_may_74 : decode cX6_may 74 = .ok (.iconst 3, 1) := by decide +kernel
theorem dX6_may_75 : decode cX6_may 75 = .ok (.istore 8, 2) := by decide +kernel
theorem dX6_may_77 : decode cX6_may 77 = .ok (.iload 7, 2) := by decide +kernel
theorem dX6_may_79 : decode cX6_may 79 = .ok (.istore 9, 2) := by decide +kernel
theorem dX6_may_81 : decode cX6_may 81 = .ok (.iload 9, 2) := by decide +kernel
theorem dX6_may_83 : decode cX6_may 83 = .ok (.iload 8, 2) := by decide +kernel
theorem dX6_may_85 : decode cX6_may 85 = .ok (.if_icmp .gt 81, 3) := by decide +kernel
theorem dX6_may_88 : decode cX6_may 88 = .ok (.aload_n 0, 1) := by decide +kernel
theorem dX6_may_89 : decode cX6_may 89 = .ok (.getfield 16, 3) := by decide +kernel
theorem dX6_may_92 : decode cX6_may 92 = .ok (.iload_n 1, 1) := by decide +kernel
theorem dX6_may_93 : decode cX6_may 93 = .ok (.iload_n 2, 1) := by decide +kernel
theorem dX6_may_94 : decode cX6_may 94 = .ok (.ifCond .ne 8, 3) := by decide +kernel
theorem dX6_may_97 : decode cX6_may 97 = .ok (.iload 9, 2) := by decide +kernel
theorem dX6_may_99 : decode cX6_may 99 = .ok (.goto 5, 3) := by decide +kernel
theorem dX6_may_102 : decode cX6_may 102 = .ok (.iload 5, 2) := by decide +kernel
theorem dX6_may_104 : decode cX6_may 104 = .ok (.iastore, 1) := by decide +kernel
theorem dX6_may_105 : decode cX6_may 105 = .ok (.aload_n 0, 1) := by decide +kernel
theorem dX6_may_106 : decode cX6_may 106 = .ok (.getfield 13, 3) := by decide +kernel
theorem dX6_may_109 : decode cX6_may 109 = .ok (.iload_n 1, 1) := by decide +kernel
theorem dX6_may_110 : decode cX6_may 110 = .ok (.iload_n 2, 1) := by decide +kernel
theorem dX6_may_111 : decode cX6_may 111 = .ok (.iconst 1, 1) := by decide +kernel
theorem dX6_may_112 : decode cX6_may 112 = .ok (.if_icmp .ne 8, 3) := by decide +kernel
theorem dX6_may_115 : decode cX6_may 115 = .ok (.iload 9, 2) := by decide +kernel
theorem dX6_may_117 : decode cX6_may 117 = .ok (.goto 5, 3) := by decide +kernel
theorem dX6_may_120 : decode cX6_may 120 = .ok (.iload 4, 2) := by decide +kernel
theorem dX6_may_122 : decode cX6_may 122 = .ok (.iastore, 1) := by decide +kernel
theorem dX6_may_123 : decode cX6_may 123 = .ok (.aload_n 0, 1) := by decide +kernel
theorem dX6_may_124 : decode cX6_may 124 = .ok (.getfield 9, 3) := by decide +kernel
theorem dX6_may_127 : decode cX6_may 127 = .ok (.iload_n 1, 1) := by decide +kernel
theorem dX6_may_128 : decode cX6_may 128 = .ok (.iload_n 2, 1) := by decide +kernel
theorem dX6_may_129 : decode cX6_may 129 = .ok (.iconst 2, 1) := by decide +kernel
theorem dX6_may_130 : decode cX6_may 130 = .ok (.if_icmp .ne 8, 3) := by decide +kernel
theorem dX6_may_133 : decode cX6_may 133 = .ok (.iload 9, 2) := by decide +kernel
theorem dX6_may_135 : decode cX6_may 135 = .ok (.goto 4, 3) := by decide +kernel
theorem dX6_may_138 : decode cX6_may 138 = .ok (.iload_n 3, 1) := by decide +kernel
theorem dX6_may_139 : decode cX6_may 139 = .ok (.iastore, 1) := by decide +kernel
theorem dX6_may_140 : decode cX6_may 140 = .ok (.iload 6, 2) := by decide +kernel
theorem dX6_may_142 : decode cX6_may 142 = .ok (.aload_n 0, 1) := by decide +kernel
theorem dX6_may_143 : decode cX6_may 143 = .ok (.invokevirtual 228, 3) := by decide +kernel
theorem dX6_may_146 : decode cX6_may 146 = .ok (.ifCond .eq 10, 3) := by decide +kernel
theorem dX6_may_149 : decode cX6_may 149 = .ok (.iconst 1, 1) := by decide +kernel
theorem dX6_may_150 : decode cX6_may 150 = .ok (.iload 9, 2) := by decide +kernel
theorem dX6_may_152 : decode cX6_may 152 = .ok (.ishl, 1) := by decide +kernel
theorem dX6_may_153 : decode cX6_may 153 = .ok (.goto 4, 3) := by decide +kernel
theorem dX6_may_156 : decode cX6_may 156 = .ok (.iconst 0, 1) := by decide +kernel
theorem dX6_may_157 : decode cX6_may 157 = .ok (.ior, 1) := by decide +kernel
theorem dX6_may_158 : decode cX6_may 158 = .ok (.istore 6, 2) := by decide +kernel
theorem dX6_may_160 : decode cX6_may 160 = .ok (.iinc 9 1, 3) := by decide +kernel
theorem dX6_may_163 : decode cX6_may 163 = .ok (.goto (-82), 3) := by decide +kernel
theorem dX6_may_166 : decode cX6_may 166 = .ok (.aload_n 0, 1) := by decide +kernel
theorem dX6_may_167 : decode cX6_may 167 = .ok (.getfield 9, 3) := by decide +kernel
theorem dX6_may_170 : decode cX6_may 170 = .ok (.iload_n 1, 1) := by decide +kernel
theorem dX6_may_171 : decode cX6_may 171 = .ok (.iload_n 3, 1) := by decide +kernel
theorem dX6_may_172 : decode cX6_may 172 = .ok (.iastore, 1) := by decide +kernel
theorem dX6_may_173 : decode cX6_may 173 = .ok (.aload_n 0, 1) := by decide +kernel
theorem dX6_may_174 : decode cX6_may 174 = .ok (.getfield 13, 3) := by decide +kernel
theorem dX6_may_177 : decode cX6_may 177 = .ok (.iload_n 1, 1) := by decide +kernel
theorem dX6_may_178 : decode cX6_may 178 = .ok (.iload 4, 2) := by decide +kernel
theorem dX6_may_180 : decode cX6_may 180 = .ok (.iastore, 1) := by decide +kernel
theorem dX6_may_181 : decode cX6_may 181 = .ok (.aload_n 0, 1) := by decide +kernel
theorem dX6_may_182 : decode cX6_may 182 = .ok (.getfield 16, 3) := by decide +kernel
theorem dX6_may_185 : decode cX6_may 185 = .ok (.iload_n 1, 1) := by decide +kernel
theorem dX6_may_186 : decode cX6_may 186 = .ok (.iload 5, 2) := by decide +kernel
theorem dX6_may_188 : decode cX6_may 188 = .ok (.iastore, 1) := by decide +kernel
theorem dX6_may_189 : decode cX6_may 189 = .ok (.iload 6, 2) := by decide +kernel
theorem dX6_may_191 : decode cX6_may 191 = .ok (.ireturn, 1) := by decide +kernel
theorem dX6_stowaway_0 : decode cX6_stowaway 0 = .ok (.iload_n 1, 1) := by decide +kernel
theorem dX6_stowaway_1 : decode cX6_stowaway 1 = .ok (.iconst 0, 1) := by decide +kernel
theorem dX6_stowaway_2 : decode cX6_stowaway 2 = .ok (.iconst 1, 1) := by decide +kernel
theorem dX6_stowaway_3 : decode cX6_stowaway 3 = .ok (.invokestatic 94, 3) := by decide +kernel
theorem dX6_stowaway_6 : decode cX6_stowaway 6 = .ok (.ifCond .ne 5, 3) := by decide +kernel
theorem dX6_stowaway_9 : decode cX6_stowaway 9 = .ok (.iconst (-1), 1) := by decide +kernel
theorem dX6_stowaway_10 : decode cX6_stowaway 10 = .ok (.ireturn, 1) := by decide +kernel
theorem dX6_stowaway_11 : decode cX6_stowaway 11 = .ok (.iconst 0, 1) := by decide +kernel
theorem dX6_stowaway_12 : decode cX6_stowaway 12 = .ok (.istore_n 2, 1) := by decide +kernel
theorem dX6_stowaway_13 : decode cX6_stowaway 13 = .ok (.bipush (-4), 2) := by decide +kernel
theorem dX6_stowaway_15 : decode cX6_stowaway 15 = .ok (.istore_n 3, 1) := by decide +kernel
theorem dX6_stowaway_16 : decode cX6_stowaway 16 = .ok (.aload_n 0, 1) := by decide +kernel
theorem dX6_stowaway_17 : decode cX6_stowaway 17 = .ok (.iconst 1, 1) := by decide +kernel
theorem dX6_stowaway_18 : decode cX6_stowaway 18 = .ok (.putfield 169, 3) := by decide +kernel
theorem dX6_stowaway_21 : decode cX6_stowaway 21 = .ok (.aload_n 0, 1) := by decide +kernel
theorem dX6_stowaway_22 : decode cX6_stowaway 22 = .ok (.getfield 9, 3) := by decide +kernel
theorem dX6_stowaway_25 : decode cX6_stowaway 25 = .ok (.aload_n 0, 1) := by decide +kernel
theorem dX6_stowaway_26 : decode cX6_stowaway 26 = .ok (.getfield 91, 3) := by decide +kernel
theorem dX6_stowaway_29 : decode cX6_stowaway 29 = .ok (.iconst 0, 1) := by decide +kernel
theorem dX6_stowaway_30 : decode cX6_stowaway 30 = .ok (.iastore, 1) := by decide +kernel
theorem dX6_stowaway_31 : decode cX6_stowaway 31 = .ok (.iconst 0, 1) := by decide +kernel
theorem dX6_stowaway_32 : decode cX6_stowaway 32 = .ok (.istore 4, 2) := by decide +kernel
theorem dX6_stowaway_34 : decode cX6_stowaway 34 = .ok (.iload 4, 2) := by decide +kernel
theorem dX6_stowaway_36 : decode cX6_stowaway 36 = .ok (.bipush 6, 2) := by decide +kernel
theorem dX6_stowaway_38 : decode cX6_stowaway 38 = .ok (.if_icmp .ge 88, 3) := by decide +kernel
theorem dX6_stowaway_41 : decode cX6_stowaway 41 = .ok (.iconst 1, 1) := by decide +kernel
theorem dX6_stowaway_42 : decode cX6_stowaway 42 = .ok (.istore 5, 2) := by decide +kernel
theorem dX6_stowaway_44 : decode cX6_stowaway 44 = .ok (.iload 5, 2) := by decide +kernel
theorem dX6_stowaway_46 : decode cX6_stowaway 46 = .ok (.bipush 9, 2) := by decide +kernel
theorem dX6_stowaway_48 : decode cX6_stowaway 48 = .ok (.if_icmp .gt 72, 3) := by decide +kernel
theorem dX6_stowaway_51 : decode cX6_stowaway 51 = .ok (.aload_n 0, 1) := by decide +kernel
theorem dX6_stowaway_52 : decode cX6_stowaway 52 = .ok (.getfield 13, 3) := by decide +kernel
theorem dX6_stowaway_55 : decode cX6_stowaway 55 = .ok (.aload_n 0, 1) := by decide +kernel
theorem dX6_stowaway_56 : decode cX6_stowaway 56 = .ok (.getfield 91, 3) := by decide +kernel
theorem dX6_stowaway_59 : decode cX6_stowaway 59 = .ok (.iload 4, 2) := by decide +kernel
theorem dX6_stowaway_61 : decode cX6_stowaway 61 = .ok (.iastore, 1) := by decide +kernel
theorem dX6_stowaway_62 : decode cX6_stowaway 62 = .ok (.aload_n 0, 1) := by decide +kernel
theorem dX6_stowaway_63 : decode cX6_stowaway 63 = .ok (.getfield 16, 3) := by decide +kernel
theorem dX6_stowaway_66 : decode cX6_stowaway 66 = .ok (.aload_n 0, 1) := by decide +kernel
theorem dX6_stowaway_67 : decode cX6_stowaway 67 = .ok (.getfield 91, 3) := by decide +kernel
theorem dX6_stowaway_70 : decode cX6_stowaway 70 = .ok (.iload 5, 2) := by decide +kernel
theorem dX6_stowaway_72 : decode cX6_stowaway 72 = .ok (.iastore, 1) := by decide +kernel
theorem dX6_stowaway_73 : decode cX6_stowaway 73 = .ok (.aload_n 0, 1) := by decide +kernel
theorem dX6_stowaway_74 : decode cX6_stowaway 74 = .ok (.invokevirtual 228, 3) := by decide +kernel
theorem dX6_stowaway_77 : decode cX6_stowaway 77 = .ok (.istore 6, 2) := by decide +kernel
theorem dX6_stowaway_79 : decode cX6_stowaway 79 = .ok (.iload 6, 2) := by decide +kernel
theorem dX6_stowaway_81 : decode cX6_stowaway 81 = .ok (.ifCond .eq 18, 3) := by decide +kernel
theorem dX6_stowaway_84 : decode cX6_stowaway 84 = .ok (.iload_n 2, 1) := by decide +kernel
theorem dX6_stowaway_85 : decode cX6_stowaway 85 = .ok (.ifCond .ne 14, 3) := by decide +kernel
theorem dX6_stowaway_88 : decode cX6_stowaway 88 = .ok (.bipush 10, 2) := by decide +kernel
theorem dX6_stowaway_90 : decode cX6_stowaway 90 = .ok (.iload 4, 2) := by decide +kernel
theorem dX6_stowaway_92 : decode cX6_stowaway 92 = .ok (.imul, 1) := by decide +kernel
theorem dX6_stowaway_93 : decode cX6_stowaway 93 = .ok (.iload 5, 2) := by decide +kernel
theorem dX6_stowaway_95 : decode cX6_stowaway 95 = .ok (.iadd, 1) := by decide +kernel
theorem dX6_stowaway_96 : decode cX6_stowaway 96 = .ok (.goto 4, 3) := by decide +kernel
theorem dX6_stowaway_99 : decode cX6_stowaway 99 = .ok (.iload_n 3, 1) := by decide +kernel
theorem dX6_stowaway_100 : decode cX6_stowaway 100 = .ok (.istore_n 3, 1) := by decide +kernel
theorem dX6_stowaway_101 : decode cX6_stowaway 101 = .ok (.iload_n 2, 1) := by decide +kernel
theorem dX6_stowaway_102 : decode cX6_stowaway 102 = .ok (.iload 6, 2) := by decide +kernel
theorem dX6_stowaway_104 : decode cX6_stowaway 104 = .ok (.ifCond .eq 7, 3) := by decide +kernel
theorem dX6_stowaway_107 : decode cX6_stowaway 107 = .ok (.iconst 1, 1) := by decide +kernel
theorem dX6_stowaway_108 : decode cX6_stowaway 108 = .ok (.goto 4, 3) := by decide +kernel
theorem dX6_stowaway_111 : decode cX6_stowaway 111 = .ok (.iconst 0, 1) := by decide +kernel
theorem dX6_stowaway_112 : decode cX6_stowaway 112 = .ok (.iadd, 1) := by decide +kernel
theorem dX6_stowaway_113 : decode cX6_stowaway 113 = .ok (.istore_n 2, 1) := by decide +kernel
theorem dX6_stowaway_114 : decode cX6_stowaway 114 = .ok (.iinc 5 1, 3) := by decide +kernel
theorem dX6_stowaway_117 : decode cX6_stowaway 117 = .ok (.goto (-73), 3) := by decide +kernel
theorem dX6_stowaway_120 : decode cX6_stowaway 120 = .ok (.iinc 4 1, 3) := by decide +kernel
theorem dX6_stowaway_123 : decode cX6_stowaway 123 = .ok (.goto (-89), 3) := by decide +kernel
theorem dX6_stowaway_126 : decode cX6_stowaway 126 = .ok (.aload_n 0, 1) := by decide +kernel
theorem dX6_stowaway_127 : decode cX6_stowaway 127 = .ok (.iconst 0, 1) := by decide +kernel
theorem dX6_stowaway_128 : decode cX6_stowaway 128 = .ok (.putfield 169, 3) := by decide +kernel
theorem dX6_stowaway_131 : decode cX6_stowaway 131 = .ok (.iload_n 1, 1) := by decide +kernel
theorem dX6_stowaway_132 : decode cX6_stowaway 132 = .ok (.ifCond .ne 7, 3) := by decide +kernel
theorem dX6_stowaway_135 : decode cX6_stowaway 135 = .ok (.iload_n 2, 1) := by decide +kernel
theorem dX6_stowaway_136 : decode cX6_stowaway 136 = .ok (.goto 4, 3) := by decide +kernel
theorem dX6_stowaway_139 : decode cX6_stowaway 139 = .ok (.iload_n 3, 1) := by decide +kernel
theorem dX6_stowaway_140 : decode cX6_stowaway 140 = .ok (.ireturn, 1) := by decide +kernel
theorem dX6_common_0 : decode cX6_common 0 = .ok (.lload_n 0, 1) := by decide +kernel
theorem dX6_common_1 : decode cX6_common 1 = .ok (.lstore 4, 2) := by decide +kernel
theorem dX6_common_3 : decode cX6_common 3 = .ok (.lload_n 2, 1) := by decide +kernel
theorem dX6_common_4 : decode cX6_common 4 = .ok (.lstore 6, 2) := by decide +kernel
theorem dX6_common_6 : decode cX6_common 6 = .ok (.lload 6, 2) := by decide +kernel
theorem dX6_common_8 : decode cX6_common 8 = .ok (.lconst 0, 1) := by decide +kernel
theorem dX6_common_9 : decode cX6_common 9 = .ok (.lcmp, 1) := by decide +kernel
theorem dX6_common_10 : decode cX6_common 10 = .ok (.ifCond .eq 21, 3) := by decide +kernel
theorem dX6_common_13 : decode cX6_common 13 = .ok (.lload 4, 2) := by decide +kernel
theorem dX6_common_15 : decode cX6_common 15 = .ok (.lload 6, 2) := by decide +kernel
theorem dX6_common_17 : decode cX6_common 17 = .ok (.lrem, 1) := by decide +kernel
theorem dX6_common_18 : decode cX6_common 18 = .ok (.lstore 8, 2) := by decide +kernel
theorem dX6_common_20 : decode cX6_common 20 = .ok (.lload 6, 2) := by decide +kernel
theorem dX6_common_22 : decode cX6_common 22 = .ok (.lstore 4, 2) := by decide +kernel
theorem dX6_common_24 : decode cX6_common 24 = .ok (.lload 8, 2) := by decide +kernel
theorem dX6_common_26 : decode cX6_common 26 = .ok (.lstore 6, 2) := by decide +kernel
theorem dX6_common_28 : decode cX6_common 28 = .ok (.goto (-22), 3) := by decide +kernel
theorem dX6_common_31 : decode cX6_common 31 = .ok (.lload 4, 2) := by decide +kernel
theorem dX6_common_33 : decode cX6_common 33 = .ok (.lreturn, 1) := by decide +kernel
theorem dX6_likely_0 : decode cX6_likely 0 = .ok (.iload_n 1, 1) := by decide +kernel
theorem dX6_likely_1 : decode cX6_likely 1 = .ok (.iconst 0, 1) := by decide +kernel
theorem dX6_likely_2 : decode cX6_likely 2 = .ok (.bipush 7, 2) := by decide +kernel
theorem dX6_likely_4 : decode cX6_likely 4 = .ok (.invokestatic 94, 3) := by decide +kernel
theorem dX6_likely_7 : decode cX6_likely 7 = .ok (.ifCond .eq 22, 3) := by decide +kernel
theorem dX6_likely_10 : decode cX6_likely 10 = .ok (.iload_n 2, 1) := by decide +kernel
theorem dX6_likely_11 : decode cX6_likely 11 = .ok (.iconst 0, 1) := by decide +kernel
theorem dX6_likely_12 : decode cX6_likely 12 = .ok (.bipush 10, 2) := by decide +kernel
theorem dX6_likely_14 : decode cX6_likely 14 = .ok (.invokestatic 94, 3) := by decide +kernel
theorem dX6_likely_17 : decode cX6_likely 17 = .ok (.ifCond .eq 12, 3) := by decide +kernel
theorem dX6_likely_20 : decode cX6_likely 20 = .ok (.iload_n 3, 1) := by decide +kernel
theorem dX6_likely_21 : decode cX6_likely 21 = .ok (.iconst 0, 1) := by decide +kernel
theorem dX6_likely_22 : decode cX6_likely 22 = .ok (.iconst 1, 1) := by decide +kernel
theorem dX6_likely_23 : decode cX6_likely 23 = .ok (.invokestatic 94, 3) := by decide +kernel
theorem dX6_likely_26 : decode cX6_likely 26 = .ok (.ifCond .ne 5, 3) := by decide +kernel
theorem dX6_likely_29 : decode cX6_likely 29 = .ok (.iconst (-1), 1) := by decide +kernel
theorem dX6_likely_30 : decode cX6_likely 30 = .ok (.ireturn, 1) := by decide +kernel
theorem dX6_likely_31 : decode cX6_likely 31 = .ok (.lconst 0, 1) := by decide +kernel
theorem dX6_likely_32 : decode cX6_likely 32 = .ok (.lstore 4, 2) := by decide +kernel
theorem dX6_likely_34 : decode cX6_likely 34 = .ok (.lconst 1, 1) := by decide +kernel
theorem dX6_likely_35 : decode cX6_likely 35 = .ok (.lstore 6, 2) := by decide +kernel
theorem dX6_likely_37 : decode cX6_likely 37 = .ok (.iconst 0, 1) := by decide +kernel
theorem dX6_likely_38 : decode cX6_likely 38 = .ok (.istore 8, 2) := by decide +kernel
theorem dX6_likely_40 : decode cX6_likely 40 = .ok (.iload 8, 2) := by decide +kernel
theorem dX6_likely_42 : decode cX6_likely 42 = .ok (.iload_n 1, 1) := by decide +kernel
theorem dX6_likely_43 : decode cX6_likely 43 = .ok (.if_icmp .ge 17, 3) := by decide +kernel
theorem dX6_likely_46 : decode cX6_likely 46 = .ok (.lload 6, 2) := by decide +kernel
theorem dX6_likely_48 : decode cX6_likely 48 = .ok (.ldc2_w 231, 3) := by decide +kernel
theorem dX6_likely_51 : decode cX6_likely 51 = .ok (.lmul, 1) := by decide +kernel
theorem dX6_likely_52 : decode cX6_likely 52 = .ok (.lstore 6, 2) := by decide +kernel
theorem dX6_likely_54 : decode cX6_likely 54 = .ok (.iinc 8 1, 3) := by decide +kernel
theorem dX6_likely_57 : decode cX6_likely 57 = .ok (.goto (-17), 3) := by decide +kernel
theorem dX6_likely_60 : decode cX6_likely 60 = .ok (.iconst 0, 1) := by decide +kernel
theorem dX6_likely_61 : decode cX6_likely 61 = .ok (.istore 8, 2) := by decide +kernel
theorem dX6_likely_63 : decode cX6_likely 63 = .ok (.iload 8, 2) := by decide +kernel
theorem dX6_likely_65 : decode cX6_likely 65 = .ok (.iconst 1, 1) := by decide +kernel
theorem dX6_likely_66 : decode cX6_likely 66 = .ok (.iload_n 1, 1) := by decide +kernel
theorem dX6_likely_67 : decode cX6_likely 67 = .ok (.ishl, 1) := by decide +kernel
theorem dX6_likely_68 : decode cX6_likely 68 = .ok (.if_icmp .ge 132, 3) := by decide +kernel
theorem dX6_likely_71 : decode cX6_likely 71 = .ok (.lconst 1, 1) := by decide +kernel
theorem dX6_likely_72 : decode cX6_likely 72 = .ok (.lstore 9, 2) := by decide +kernel
theorem dX6_likely_74 : decode cX6_likely 74 = .ok (.aload_n 0, 1) := by decide +kernel
theorem dX6_likely_75 : decode cX6_likely 75 = .ok (.invokevirtual 209, 3) := by decide +kernel
theorem dX6_likely_78 : decode cX6_likely 78 = .ok (.aload_n 0, 1) := by decide +kernel
theorem dX6_likely_79 : decode cX6_likely 79 = .ok (.getfield 74, 3) := by decide +kernel
theorem dX6_likely_82 : decode cX6_likely 82 = .ok (.istore 11, 2) := by decide +kernel
theorem dX6_likely_84 : decode cX6_likely 84 = .ok (.aload_n 0, 1) := by decide +kernel
theorem dX6_likely_85 : decode cX6_likely 85 = .ok (.getfield 61, 3) := by decide +kernel
theorem dX6_likely_88 : decode cX6_likely 88 = .ok (.istore 12, 2) := by decide +kernel
theorem dX6_likely_90 : decode cX6_likely 90 = .ok (.aload_n 0, 1) := by decide +kernel
theorem dX6_likely_91 : decode cX6_likely 91 = .ok (.getfield 65, 3) := by decide +kernel
theorem dX6_likely_94 : decode cX6_likely 94 = .ok (.istore 13, 2) := by decide +kernel
theorem dX6_likely_96 : decode cX6_likely 96 = .ok (.iconst 0, 1) := by decide +kernel
theorem dX6_likely_97 : decode cX6_likely 97 = .ok (.istore 14, 2) := by decide +kernel
theorem dX6_likely_99 : decode cX6_likely 99 = .ok (.iload 14, 2) := by decide +kernel
theorem dX6_likely_101 : decode cX6_likely 101 = .ok (.iload_n 1, 1) := by decide +kernel
theorem dX6_likely_102 : decode cX6_likely 102 = .ok (.if_icmp .ge 59, 3) := by decide +kernel
theorem dX6_likely_105 : decode cX6_likely 105 = .ok (.aload_n 0, 1) := by decide +kernel
theorem dX6_likely_106 : decode cX6_likely 106 = .ok (.iload 8, 2) := by decide +kernel
theorem dX6_likely_108 : decode cX6_likely 108 = .ok (.iload 14, 2) := by decide +kernel
theorem dX6_likely_110 : decode cX6_likely 110 = .ok (.invokestatic 219, 3) := by decide +kernel
theorem dX6_likely_113 : decode cX6_likely 113 = .ok (.ifCond .eq 7, 3) := by decide +kernel
theorem dX6_likely_116 : decode cX6_likely 116 = .ok (.iconst 0, 1) := by decide +kernel
theorem dX6_likely_117 : decode cX6_likely 117 = .ok (.goto 5, 3) := by decide +kernel
theorem dX6_likely_120 : decode cX6_likely 120 = .ok (.iload 11, 2) := by decide +kernel
theorem dX6_likely_122 : decode cX6_likely 122 = .ok (.putfield 74, 3) := by decide +kernel
theorem dX6_likely_125 : decode cX6_likely 125 = .ok (.lload 9, 2) := by decide +kernel
theorem dX6_likely_127 : decode cX6_likely 127 = .ok (.iload 8, 2) := by decide +kernel
theorem dX6_likely_129 : decode cX6_likely 129 = .ok (.iload 14, 2) := by decide +kernel
theorem dX6_likely_131 : decode cX6_likely 131 = .ok (.invokestatic 219, 3) := by decide +kernel
theorem dX6_likely_134 : decode cX6_likely 134 = .ok (.ifCond .eq 8, 3) := by decide +kernel
theorem dX6_likely_137 : decode cX6_likely 137 = .ok (.iload_n 2, 1) := by decide +kernel
theorem dX6_likely_138 : decode cX6_likely 138 = .ok (.i2l, 1) := by decide +kernel
theorem dX6_likely_139 : decode cX6_likely 139 = .ok (.goto 8, 3) := by decide +kernel
theorem dX6_likely_142 : decode cX6_likely 142 = .ok (.bipush 10, 2) := by decide +kernel
theorem dX6_likely_144 : decode cX6_likely 144 = .ok (.iload_n 2, 1) := by decide +kernel
theorem dX6_likely_145 : decode cX6_likely 145 = .ok (.isub, 1) := by decide +kernel
theorem dX6_likely_146 : decode cX6_likely 146 = .ok (.i2l, 1) := by decide +kernel
theorem dX6_likely_147 : decode cX6_likely 147 = .ok (.lmul, 1) := by decide +kernel
theorem dX6_likely_148 : decode cX6_likely 148 = .ok (.lstore 9, 2) := by decide +kernel
theorem dX6_likely_150 : decode cX6_likely 150 = .ok (.aload_n 0, 1) := by decide +kernel
theorem dX6_likely_151 : decode cX6_likely 151 = .ok (.invokevirtual 186, 3) := by decide +kernel
theorem dX6_likely_154 : decode cX6_likely 154 = .ok (.pop, 1) := by decide +kernel
theorem dX6_likely_155 : decode cX6_likely 155 = .ok (.iinc 14 1, 3) := by decide +kernel
theorem dX6_likely_158 : decode cX6_likely 158 = .ok (.goto (-59), 3) := by decide +kernel
theorem dX6_likely_161 : decode cX6_likely 161 = .ok (.lload 4, 2) := by decide +kernel
theorem dX6_likely_163 : decode cX6_likely 163 = .ok (.aload_n 0, 1) := by decide +kernel
theorem dX6_likely_164 : decode cX6_likely 164 = .ok (.getfield 61, 3) := by decide +kernel
theorem dX6_likely_167 : decode cX6_likely 167 = .ok (.iload 12, 2) := by decide +kernel
theorem dX6_likely_169 : decode cX6_likely 169 = .ok (.if_icmp .ne 17, 3) := by decide +kernel
theorem dX6_likely_172 : decode cX6_likely 172 = .ok (.aload_n 0, 1) := by decide +kernel
theorem dX6_likely_173 : decode cX6_likely 173 = .ok (.getfield 65, 3) := by decide +kernel
theorem dX6_likely_176 : decode cX6_likely 176 = .ok (.iload 13, 2) := by decide +kernel
theorem dX6_likely_178 : decode cX6_likely 178 = .ok (.if_icmp .ne 8, 3) := by decide +kernel
theorem dX6_likely_181 : decode cX6_likely 181 = .ok (.lload 9, 2) := by decide +kernel
theorem dX6_likely_183 : decode cX6_likely 183 = .ok (.goto 4, 3) := by decide +kernel
theorem dX6_likely_186 : decode cX6_likely 186 = .ok (.lconst 0, 1) := by decide +kernel
theorem dX6_likely_187 : decode cX6_likely 187 = .ok (.ladd, 1) := by decide +kernel
theorem dX6_likely_188 : decode cX6_likely 188 = .ok (.lstore 4, 2) := by decide +kernel
theorem dX6_likely_190 : decode cX6_likely 190 = .ok (.aload_n 0, 1) := by decide +kernel
theorem dX6_likely_191 : decode cX6_likely 191 = .ok (.invokevirtual 216, 3) := by decide +kernel
theorem dX6_likely_194 : decode cX6_likely 194 = .ok (.iinc 8 1, 3) := by decide +kernel
theorem dX6_likely_197 : decode cX6_likely 197 = .ok (.goto (-134), 3) := by decide +kernel
theorem dX6_likely_200 : decode cX6_likely 200 = .ok (.lload 4, 2) := by decide +kernel
theorem dX6_likely_202 : decode cX6_likely 202 = .ok (.lload 6, 2) := by decide +kernel
theorem dX6_likely_204 : decode cX6_likely 204 = .ok (.invokestatic 233, 3) := by decide +kernel
theorem dX6_likely_207 : decode cX6_likely 207 = .ok (.lstore 8, 2) := by decide +kernel
theorem dX6_likely_209 : decode cX6_likely 209 = .ok (.iload_n 3, 1) := by decide +kernel
theorem dX6_likely_210 : decode cX6_likely 210 = .ok (.ifCond .ne 11, 3) := by decide +kernel
theorem dX6_likely_213 : decode cX6_likely 213 = .ok (.lload 4, 2) := by decide +kernel
theorem dX6_likely_215 : decode cX6_likely 215 = .ok (.lload 8, 2) := by decide +kernel
theorem dX6_likely_217 : decode cX6_likely 217 = .ok (.ldiv, 1) := by decide +kernel
theorem dX6_likely_218 : decode cX6_likely 218 = .ok (.goto 8, 3) := by decide +kernel
theorem dX6_likely_221 : decode cX6_likely 221 = .ok (.lload 6, 2) := by decide +kernel
theorem dX6_likely_223 : decode cX6_likely 223 = .ok (.lload 8, 2) := by decide +kernel
theorem dX6_likely_225 : decode cX6_likely 225 = .ok (.ldiv, 1) := by decide +kernel
theorem dX6_likely_226 : decode cX6_likely 226 = .ok (.l2i, 1) := by decide +kernel
theorem dX6_likely_227 : decode cX6_likely 227 = .ok (.ireturn, 1) := by decide +kernel
theorem dX6_voyage_0 : decode cX6_voyage 0 = .ok (.iload_n 1, 1) := by decide +kernel
theorem dX6_voyage_1 : decode cX6_voyage 1 = .ok (.iconst 0, 1) := by decide +kernel
theorem dX6_voyage_2 : decode cX6_voyage 2 = .ok (.sipush 9999, 3) := by decide +kernel
theorem dX6_voyage_5 : decode cX6_voyage 5 = .ok (.invokestatic 94, 3) := by decide +kernel
theorem dX6_voyage_8 : decode cX6_voyage 8 = .ok (.ifCond .eq 22, 3) := by decide +kernel
theorem dX6_voyage_11 : decode cX6_voyage 11 = .ok (.iload_n 2, 1) := by decide +kernel
theorem dX6_voyage_12 : decode cX6_voyage 12 = .ok (.iconst 1, 1) := by decide +kernel
theorem dX6_voyage_13 : decode cX6_voyage 13 = .ok (.bipush 60, 2) := by decide +kernel
theorem dX6_voyage_15 : decode cX6_voyage 15 = .ok (.invokestatic 94, 3) := by decide +kernel
theorem dX6_voyage_18 : decode cX6_voyage 18 = .ok (.ifCond .eq 12, 3) := by decide +kernel
theorem dX6_voyage_21 : decode cX6_voyage 21 = .ok (.iload_n 3, 1) := by decide +kernel
theorem dX6_voyage_22 : decode cX6_voyage 22 = .ok (.iconst 0, 1) := by decide +kernel
theorem dX6_voyage_23 : decode cX6_voyage 23 = .ok (.iconst 2, 1) := by decide +kernel
theorem dX6_voyage_24 : decode cX6_voyage 24 = .ok (.invokestatic 94, 3) := by decide +kernel
theorem dX6_voyage_27 : decode cX6_voyage 27 = .ok (.ifCond .ne 5, 3) := by decide +kernel
theorem dX6_voyage_30 : decode cX6_voyage 30 = .ok (.iconst (-1), 1) := by decide +kernel
theorem dX6_voyage_31 : decode cX6_voyage 31 = .ok (.ireturn, 1) := by decide +kernel
theorem dX6_voyage_32 : decode cX6_voyage 32 = .ok (.aload_n 0, 1) := by decide +kernel
theorem dX6_voyage_33 : decode cX6_voyage 33 = .ok (.invokevirtual 209, 3) := by decide +kernel
theorem dX6_voyage_36 : decode cX6_voyage 36 = .ok (.iconst 0, 1) := by decide +kernel
theorem dX6_voyage_37 : decode cX6_voyage 37 = .ok (.istore 4, 2) := by decide +kernel
theorem dX6_voyage_39 : decode cX6_voyage 39 = .ok (.iconst 0, 1) := by decide +kernel
theorem dX6_voyage_40 : decode cX6_voyage 40 = .ok (.istore 5, 2) := by decide +kernel
theorem dX6_voyage_42 : decode cX6_voyage 42 = .ok (.iload 5, 2) := by decide +kernel
theorem dX6_voyage_44 : decode cX6_voyage 44 = .ok (.iload_n 2, 1) := by decide +kernel
theorem dX6_voyage_45 : decode cX6_voyage 45 = .ok (.if_icmp .ge 130, 3) := by decide +kernel
theorem dX6_voyage_48 : decode cX6_voyage 48 = .ok (.ldc2_w 237, 3) := by decide +kernel
theorem dX6_voyage_51 : decode cX6_voyage 51 = .ok (.iload_n 1, 1) := by decide +kernel
theorem dX6_voyage_52 : decode cX6_voyage 52 = .ok (.i2l, 1) := by decide +kernel
theorem dX6_voyage_53 : decode cX6_voyage 53 = .ok (.lmul, 1) := by decide +kernel
theorem dX6_voyage_54 : decode cX6_voyage 54 = .ok (.ldc2_w 239, 3) := by decide +kernel
theorem dX6_voyage_57 : decode cX6_voyage 57 = .ok (.iload 5, 2) := by decide +kernel
theorem dX6_voyage_59 : decode cX6_voyage 59 = .ok (.i2l, 1) := by decide +kernel
theorem dX6_voyage_60 : decode cX6_voyage 60 = .ok (.lmul, 1) := by decide +kernel
theorem dX6_voyage_61 : decode cX6_voyage 61 = .ok (.ladd, 1) := by decide +kernel
theorem dX6_voyage_62 : decode cX6_voyage 62 = .ok (.lconst 1, 1) := by decide +kernel
theorem dX6_voyage_63 : decode cX6_voyage 63 = .ok (.ladd, 1) := by decide +kernel
theorem dX6_voyage_64 : decode cX6_voyage 64 = .ok (.lstore 6, 2) := by decide +kernel
theorem dX6_voyage_66 : decode cX6_voyage 66 = .ok (.lload 6, 2) := by decide +kernel
theorem dX6_voyage_68 : decode cX6_voyage 68 = .ok (.lload 6, 2) := by decide +kernel
theorem dX6_voyage_70 : decode cX6_voyage 70 = .ok (.lmul, 1) := by decide +kernel
theorem dX6_voyage_71 : decode cX6_voyage 71 = .ok (.ldc2_w 241, 3) := by decide +kernel
theorem dX6_voyage_74 : decode cX6_voyage 74 = .ok (.lrem, 1) := by decide +kernel
theorem dX6_voyage_75 : decode cX6_voyage 75 = .ok (.ldc2_w 243, 3) := by decide +kernel
theorem dX6_voyage_78 : decode cX6_voyage 78 = .ok (.ldiv, 1) := by decide +kernel
theorem dX6_voyage_79 : decode cX6_voyage 79 = .ok (.l2i, 1) := by decide +kernel
theorem dX6_voyage_80 : decode cX6_voyage 80 = .ok (.istore 8, 2) := by decide +kernel
theorem dX6_voyage_82 : decode cX6_voyage 82 = .ok (.iload 8, 2) := by decide +kernel
theorem dX6_voyage_84 : decode cX6_voyage 84 = .ok (.bipush 8, 2) := by decide +kernel
theorem dX6_voyage_86 : decode cX6_voyage 86 = .ok (.irem, 1) := by decide +kernel
theorem dX6_voyage_87 : decode cX6_voyage 87 = .ok (.ifCond .ne 29, 3) := by decide +kernel
theorem dX6_voyage_90 : decode cX6_voyage 90 = .ok (.aload_n 0, 1) := by decide +kernel
theorem dX6_voyage_91 : decode cX6_voyage 91 = .ok (.iload 8, 2) := by decide +kernel
theorem dX6_voyage_93 : decode cX6_voyage 93 = .ok (.bipush 8, 2) := by decide +kernel
theorem dX6_voyage_95 : decode cX6_voyage 95 = .ok (.idiv, 1) := by decide +kernel
theorem dX6_voyage_96 : decode cX6_voyage 96 = .ok (.iconst 5, 1) := by decide +kernel
theorem dX6_voyage_97 : decode cX6_voyage 97 = .ok (.irem, 1) := by decide +kernel
theorem dX6_voyage_98 : decode cX6_voyage 98 = .ok (.putfield 71, 3) := by decide +kernel
theorem dX6_voyage_101 : decode cX6_voyage 101 = .ok (.aload_n 0, 1) := by decide +kernel
theorem dX6_voyage_102 : decode cX6_voyage 102 = .ok (.iload 8, 2) := by decide +kernel
theorem dX6_voyage_104 : decode cX6_voyage 104 = .ok (.bipush 64, 2) := by decide +kernel
theorem dX6_voyage_106 : decode cX6_voyage 106 = .ok (.idiv, 1) := by decide +kernel
theorem dX6_voyage_107 : decode cX6_voyage 107 = .ok (.bipush 10, 2) := by decide +kernel
theorem dX6_voyage_109 : decode cX6_voyage 109 = .ok (.irem, 1) := by decide +kernel
theorem dX6_voyage_110 : decode cX6_voyage 110 = .ok (.putfield 74, 3) := by decide +kernel
theorem dX6_voyage_113 : decode cX6_voyage 113 = .ok (.goto 35, 3) := by decide +kernel
theorem dX6_voyage_116 : decode cX6_voyage 116 = .ok (.iload 8, 2) := by decide +kernel
theorem dX6_voyage_118 : decode cX6_voyage 118 = .ok (.bipush 8, 2) := by decide +kernel
theorem dX6_voyage_120 : decode cX6_voyage 120 = .ok (.irem, 1) := by decide +kernel
theorem dX6_voyage_121 : decode cX6_voyage 121 = .ok (.iconst 1, 1) := by decide +kernel
theorem dX6_voyage_122 : decode cX6_voyage 122 = .ok (.if_icmp .ne 26, 3) := by decide +kernel
theorem dX6_voyage_125 : decode cX6_voyage 125 = .ok (.aload_n 0, 1) := by decide +kernel
theorem dX6_voyage_126 : decode cX6_voyage 126 = .ok (.getfield 25, 3) := by decide +kernel
theorem dX6_voyage_129 : decode cX6_voyage 129 = .ok (.iload 8, 2) := by decide +kernel
theorem dX6_voyage_131 : decode cX6_voyage 131 = .ok (.bipush 8, 2) := by decide +kernel
theorem dX6_voyage_133 : decode cX6_voyage 133 = .ok (.idiv, 1) := by decide +kernel
theorem dX6_voyage_134 : decode cX6_voyage 134 = .ok (.aload_n 0, 1) := by decide +kernel
theorem dX6_voyage_135 : decode cX6_voyage 135 = .ok (.getfield 84, 3) := by decide +kernel
theorem dX6_voyage_138 : decode cX6_voyage 138 = .ok (.irem, 1) := by decide +kernel
theorem dX6_voyage_139 : decode cX6_voyage 139 = .ok (.iload 8, 2) := by decide +kernel
theorem dX6_voyage_141 : decode cX6_voyage 141 = .ok (.bipush 64, 2) := by decide +kernel
theorem dX6_voyage_143 : decode cX6_voyage 143 = .ok (.idiv, 1) := by decide +kernel
theorem dX6_voyage_144 : decode cX6_voyage 144 = .ok (.bipush 6, 2) := by decide +kernel
theorem dX6_voyage_146 : decode cX6_voyage 146 = .ok (.irem, 1) := by decide +kernel
theorem dX6_voyage_147 : decode cX6_voyage 147 = .ok (.iastore, 1) := by decide +kernel
theorem dX6_voyage_148 : decode cX6_voyage 148 = .ok (.aload_n 0, 1) := by decide +kernel
theorem dX6_voyage_149 : decode cX6_voyage 149 = .ok (.invokevirtual 186, 3) := by decide +kernel
theorem dX6_voyage_152 : decode cX6_voyage 152 = .ok (.istore 9, 2) := by decide +kernel
theorem dX6_voyage_154 : decode cX6_voyage 154 = .ok (.iload 4, 2) := by decide +kernel
theorem dX6_voyage_156 : decode cX6_voyage 156 = .ok (.iload 9, 2) := by decide +kernel
theorem dX6_voyage_158 : decode cX6_voyage 158 = .ok (.ifCond .eq 7, 3) := by decide +kernel
theorem dX6_voyage_161 : decode cX6_voyage 161 = .ok (.iconst 1, 1) := by decide +kernel
theorem dX6_voyage_162 : decode cX6_voyage 162 = .ok (.goto 4, 3) := by decide +kernel
theorem dX6_voyage_165 : decode cX6_voyage 165 = .ok (.iconst 0, 1) := by decide +kernel
theorem dX6_voyage_166 : decode cX6_voyage 166 = .ok (.iadd, 1) := by decide +kernel
theorem dX6_voyage_167 : decode cX6_voyage 167 = .ok (.istore 4, 2) := by decide +kernel
theorem dX6_voyage_169 : decode cX6_voyage 169 = .ok (.iinc 5 1, 3) := by decide +kernel
theorem dX6_voyage_172 : decode cX6_voyage 172 = .ok (.goto (-130), 3) := by decide +kernel
theorem dX6_voyage_175 : decode cX6_voyage 175 = .ok (.iload_n 3, 1) := by decide +kernel
theorem dX6_voyage_176 : decode cX6_voyage 176 = .ok (.ifCond .ne 10, 3) := by decide +kernel
theorem dX6_voyage_179 : decode cX6_voyage 179 = .ok (.aload_n 0, 1) := by decide +kernel
theorem dX6_voyage_180 : decode cX6_voyage 180 = .ok (.getfield 61, 3) := by decide +kernel
theorem dX6_voyage_183 : decode cX6_voyage 183 = .ok (.goto 17, 3) := by decide +kernel
theorem dX6_voyage_186 : decode cX6_voyage 186 = .ok (.iload_n 3, 1) := by decide +kernel
theorem dX6_voyage_187 : decode cX6_voyage 187 = .ok (.iconst 1, 1) := by decide +kernel
theorem dX6_voyage_188 : decode cX6_voyage 188 = .ok (.if_icmp .ne 10, 3) := by decide +kernel
theorem dX6_voyage_191 : decode cX6_voyage 191 = .ok (.aload_n 0, 1) := by decide +kernel
theorem dX6_voyage_192 : decode cX6_voyage 192 = .ok (.getfield 65, 3) := by decide +kernel
theorem dX6_voyage_195 : decode cX6_voyage 195 = .ok (.goto 5, 3) := by decide +kernel
theorem dX6_voyage_198 : decode cX6_voyage 198 = .ok (.iload 4, 2) := by decide +kernel
theorem dX6_voyage_200 : decode cX6_voyage 200 = .ok (.istore 5, 2) := by decide +kernel
theorem dX6_voyage_202 : decode cX6_voyage 202 = .ok (.aload_n 0, 1) := by decide +kernel
theorem dX6_voyage_203 : decode cX6_voyage 203 = .ok (.invokevirtual 216, 3) := by decide +kernel
theorem dX6_voyage_206 : decode cX6_voyage 206 = .ok (.iload 5, 2) := by decide +kernel
theorem dX6_voyage_208 : decode cX6_voyage 208 = .ok (.ireturn, 1) := by decide +kernel
theorem dX6_keep_0 : decode cX6_keep 0 = .ok (.aload_n 0, 1) := by decide +kernel
theorem dX6_keep_1 : decode cX6_keep 1 = .ok (.getfield 146, 3) := by decide +kernel
theorem dX6_keep_4 : decode cX6_keep 4 = .ok (.iconst 2, 1) := by decide +kernel
theorem dX6_keep_5 : decode cX6_keep 5 = .ok (.if_icmp .ne 6, 3) := by decide +kernel
theorem dX6_keep_8 : decode cX6_keep 8 = .ok (.bipush (-3), 2) := by decide +kernel
theorem dX6_keep_10 : decode cX6_keep 10 = .ok (.ireturn, 1) := by decide +kernel
theorem dX6_keep_11 : decode cX6_keep 11 = .ok (.aload_n 0, 1) := by decide +kernel
theorem dX6_keep_12 : decode cX6_keep 12 = .ok (.aload_n 0, 1) := by decide +kernel
theorem dX6_keep_13 : decode cX6_keep 13 = .ok (.getfield 58, 3) := by decide +kernel
theorem dX6_keep_16 : decode cX6_keep 16 = .ok (.bipush 29, 2) := by decide +kernel
theorem dX6_keep_18 : decode cX6_keep 18 = .ok (.aload_n 0, 1) := by decide +kernel
theorem dX6_keep_19 : decode cX6_keep 19 = .ok (.getfield 146, 3) := by decide +kernel
theorem dX6_keep_22 : decode cX6_keep 22 = .ok (.imul, 1) := by decide +kernel
theorem dX6_keep_23 : decode cX6_keep 23 = .ok (.invokevirtual 196, 3) := by decide +kernel
theorem dX6_keep_26 : decode cX6_keep 26 = .ok (.aload_n 0, 1) := by decide +kernel
theorem dX6_keep_27 : decode cX6_keep 27 = .ok (.dup, 1) := by decide +kernel
theorem dX6_keep_28 : decode cX6_keep 28 = .ok (.getfield 146, 3) := by decide +kernel
theorem dX6_keep_31 : decode cX6_keep 31 = .ok (.iconst 1, 1) := by decide +kernel
theorem dX6_keep_32 : decode cX6_keep 32 = .ok (.iadd, 1) := by decide +kernel
theorem dX6_keep_33 : decode cX6_keep 33 = .ok (.putfield 146, 3) := by decide +kernel
theorem dX6_keep_36 : decode cX6_keep 36 = .ok (.aload_n 0, 1) := by decide +kernel
theorem dX6_keep_37 : decode cX6_keep 37 = .ok (.getfield 146, 3) := by decide +kernel
theorem dX6_keep_40 : decode cX6_keep 40 = .ok (.ireturn, 1) := by decide +kernel
theorem dX6_back_0 : decode cX6_back 0 = .ok (.aload_n 0, 1) := by decide +kernel
theorem dX6_back_1 : decode cX6_back 1 = .ok (.getfield 146, 3) := by decide +kernel
theorem dX6_back_4 : decode cX6_back 4 = .ok (.ifCond .ne 6, 3) := by decide +kernel
theorem dX6_back_7 : decode cX6_back 7 = .ok (.bipush (-2), 2) := by decide +kernel
theorem dX6_back_9 : decode cX6_back 9 = .ok (.ireturn, 1) := by decide +kernel
theorem dX6_back_10 : decode cX6_back 10 = .ok (.aload_n 0, 1) := by decide +kernel
theorem dX6_back_11 : decode cX6_back 11 = .ok (.dup, 1) := by decide +kernel
theorem dX6_back_12 : decode cX6_back 12 = .ok (.getfield 146, 3) := by decide +kernel
theorem dX6_back_15 : decode cX6_back 15 = .ok (.iconst 1, 1) := by decide +kernel
theorem dX6_back_16 : decode cX6_back 16 = .ok (.isub, 1) := by decide +kernel
theorem dX6_back_17 : decode cX6_back 17 = .ok (.putfield 146, 3) := by decide +kernel
theorem dX6_back_20 : decode cX6_back 20 = .ok (.aload_n 0, 1) := by decide +kernel
theorem dX6_back_21 : decode cX6_back 21 = .ok (.aload_n 0, 1) := by decide +kernel
theorem dX6_back_22 : decode cX6_back 22 = .ok (.getfield 58, 3) := by decide +kernel
theorem dX6_back_25 : decode cX6_back 25 = .ok (.bipush 29, 2) := by decide +kernel
theorem dX6_back_27 : decode cX6_back 27 = .ok (.aload_n 0, 1) := by decide +kernel
theorem dX6_back_28 : decode cX6_back 28 = .ok (.getfield 146, 3) := by decide +kernel
theorem dX6_back_31 : decode cX6_back 31 = .ok (.imul, 1) := by decide +kernel
theorem dX6_back_32 : decode cX6_back 32 = .ok (.invokevirtual 206, 3) := by decide +kernel
theorem dX6_back_35 : decode cX6_back 35 = .ok (.aload_n 0, 1) := by decide +kernel
theorem dX6_back_36 : decode cX6_back 36 = .ok (.iconst 0, 1) := by decide +kernel
theorem dX6_back_37 : decode cX6_back 37 = .ok (.putfield 143, 3) := by decide +kernel
theorem dX6_back_40 : decode cX6_back 40 = .ok (.aload_n 0, 1) := by decide +kernel
theorem dX6_back_41 : decode cX6_back 41 = .ok (.getfield 146, 3) := by decide +kernel
theorem dX6_back_44 : decode cX6_back 44 = .ok (.ireturn, 1) := by decide +kernel
theorem dX6_count_0 : decode cX6_count 0 = .ok (.iload_n 1, 1) := by decide +kernel
theorem dX6_count_1 : decode cX6_count 1 = .ok (.iconst 0, 1) := by decide +kernel
theorem dX6_count_2 : decode cX6_count 2 = .ok (.bipush 12, 2) := by decide +kernel
theorem dX6_count_4 : decode cX6_count 4 = .ok (.invokestatic 94, 3) := by decide +kernel
theorem dX6_count_7 : decode cX6_count 7 = .ok (.ifCond .ne 5, 3) := by decide +kernel
theorem dX6_count_10 : decode cX6_count 10 = .ok (.iconst (-1), 1) := by decide +kernel
theorem dX6_count_11 : decode cX6_count 11 = .ok (.ireturn, 1) := by decide +kernel
theorem dX6_count_12 : decode cX6_count 12 = .ok (.iload_n 1, 1) := by decide +kernel
theorem dX6_count_13 : decode cX6_count 13 = .ok (.tableswitch 128 0 11 #[63, 68, 73, 78, 83, 88, 93, 98, 103, 113, 118, 123], 63) := by decide +kernel
theorem dX6_count_76 : decode cX6_count 76 = .ok (.aload_n 0, 1) := by decide +kernel
theorem dX6_count_77 : decode cX6_count 77 = .ok (.getfield 84, 3) := by decide +kernel
theorem dX6_count_80 : decode cX6_count 80 = .ok (.ireturn, 1) := by decide +kernel
theorem dX6_count_81 : decode cX6_count 81 = .ok (.aload_n 0, 1) := by decide +kernel
theorem dX6_count_82 : decode cX6_count 82 = .ok (.getfield 91, 3) := by decide +kernel
theorem dX6_count_85 : decode cX6_count 85 = .ok (.ireturn, 1) := by decide +kernel
theorem dX6_count_86 : decode cX6_count 86 = .ok (.aload_n 0, 1) := by decide +kernel
theorem dX6_count_87 : decode cX6_count 87 = .ok (.getfield 137, 3) := by decide +kernel
theorem dX6_count_90 : decode cX6_count 90 = .ok (.ireturn, 1) := by decide +kernel
theorem dX6_count_91 : decode cX6_count 91 = .ok (.aload_n 0, 1) := by decide +kernel
theorem dX6_count_92 : decode cX6_count 92 = .ok (.getfield 61, 3) := by decide +kernel
theorem dX6_count_95 : decode cX6_count 95 = .ok (.ireturn, 1) := by decide +kernel
theorem dX6_count_96 : decode cX6_count 96 = .ok (.aload_n 0, 1) := by decide +kernel
theorem dX6_count_97 : decode cX6_count 97 = .ok (.getfield 65, 3) := by decide +kernel
theorem dX6_count_100 : decode cX6_count 100 = .ok (.ireturn, 1) := by decide +kernel
theorem dX6_count_101 : decode cX6_count 101 = .ok (.aload_n 0, 1) := by decide +kernel
theorem dX6_count_102 : decode cX6_count 102 = .ok (.getfield 68, 3) := by decide +kernel
theorem dX6_count_105 : decode cX6_count 105 = .ok (.ireturn, 1) := by decide +kernel
theorem dX6_count_106 : decode cX6_count 106 = .ok (.aload_n 0, 1) := by decide +kernel
theorem dX6_count_107 : decode cX6_count 107 = .ok (.getfield 71, 3) := by decide +kernel
theorem dX6_count_110 : decode cX6_count 110 = .ok (.ireturn, 1) := by decide +kernel
theorem dX6_count_111 : decode cX6_count 111 = .ok (.aload_n 0, 1) := by decide +kernel
theorem dX6_count_112 : decode cX6_count 112 = .ok (.getfield 74, 3) := by decide +kernel
theorem dX6_count_115 : decode cX6_count 115 = .ok (.ireturn, 1) := by decide +kernel
theorem dX6_count_116 : decode cX6_count 116 = .ok (.aload_n 0, 1) := by decide +kernel
theorem dX6_count_117 : decode cX6_count 117 = .ok (.getfield 84, 3) := by decide +kernel
theorem dX6_count_120 : decode cX6_count 120 = .ok (.aload_n 0, 1) := by decide +kernel
theorem dX6_count_121 : decode cX6_count 121 = .ok (.invokevirtual 203, 3) := by decide +kernel
theorem dX6_count_124 : decode cX6_count 124 = .ok (.isub, 1) := by decide +kernel
theorem dX6_count_125 : decode cX6_count 125 = .ok (.ireturn, 1) := by decide +kernel
theorem dX6_count_126 : decode cX6_count 126 = .ok (.aload_n 0, 1) := by decide +kernel
theorem dX6_count_127 : decode cX6_count 127 = .ok (.getfield 140, 3) := by decide +kernel
theorem dX6_count_130 : decode cX6_count 130 = .ok (.ireturn, 1) := by decide +kernel
theorem dX6_count_131 : decode cX6_count 131 = .ok (.aload_n 0, 1) := by decide +kernel
theorem dX6_count_132 : decode cX6_count 132 = .ok (.getfield 143, 3) := by decide +kernel
theorem dX6_count_135 : decode cX6_count 135 = .ok (.ireturn, 1) := by decide +kernel
theorem dX6_count_136 : decode cX6_count 136 = .ok (.aload_n 0, 1) := by decide +kernel
theorem dX6_count_137 : decode cX6_count 137 = .ok (.getfield 146, 3) := by decide +kernel
theorem dX6_count_140 : decode cX6_count 140 = .ok (.ireturn, 1) := by decide +kernel
theorem dX6_count_141 : decode cX6_count 141 = .ok (.aload_n 0, 1) := by decide +kernel
theorem dX6_count_142 : decode cX6_count 142 = .ok (.getfield 98, 3) := by decide +kernel
theorem dX6_count_145 : decode cX6_count 145 = .ok (.ireturn, 1) := by decide +kernel
theorem dJ6_bitCount_0f7a4_0 : decode cJ6_bitCount_0f7a4 0 = .ok (.iload_n 0, 1) := by decide +kernel
theorem dJ6_bitCount_0f7a4_1 : decode cJ6_bitCount_0f7a4 1 = .ok (.iload_n 0, 1) := by decide +kernel
theorem dJ6_bitCount_0f7a4_2 : decode cJ6_bitCount_0f7a4 2 = .ok (.iconst 1, 1) := by decide +kernel
theorem dJ6_bitCount_0f7a4_3 : decode cJ6_bitCount_0f7a4 3 = .ok (.iushr, 1) := by decide +kernel
theorem dJ6_bitCount_0f7a4_4 : decode cJ6_bitCount_0f7a4 4 = .ok (.ldc_w 265, 3) := by decide +kernel
theorem dJ6_bitCount_0f7a4_7 : decode cJ6_bitCount_0f7a4 7 = .ok (.iand, 1) := by decide +kernel
theorem dJ6_bitCount_0f7a4_8 : decode cJ6_bitCount_0f7a4 8 = .ok (.isub, 1) := by decide +kernel
theorem dJ6_bitCount_0f7a4_9 : decode cJ6_bitCount_0f7a4 9 = .ok (.istore_n 0, 1) := by decide +kernel
theorem dJ6_bitCount_0f7a4_10 : decode cJ6_bitCount_0f7a4 10 = .ok (.iload_n 0, 1) := by decide +kernel
theorem dJ6_bitCount_0f7a4_11 : decode cJ6_bitCount_0f7a4 11 = .ok (.ldc_w 266, 3) := by decide +kernel
theorem dJ6_bitCount_0f7a4_14 : decode cJ6_bitCount_0f7a4 14 = .ok (.iand, 1) := by decide +kernel
theorem dJ6_bitCount_0f7a4_15 : decode cJ6_bitCount_0f7a4 15 = .ok (.iload_n 0, 1) := by decide +kernel
theorem dJ6_bitCount_0f7a4_16 : decode cJ6_bitCount_0f7a4 16 = .ok (.iconst 2, 1) := by decide +kernel
theorem dJ6_bitCount_0f7a4_17 : decode cJ6_bitCount_0f7a4 17 = .ok (.iushr, 1) := by decide +kernel
theorem dJ6_bitCount_0f7a4_18 : decode cJ6_bitCount_0f7a4 18 = .ok (.ldc_w 266, 3) := by decide +kernel
theorem dJ6_bitCount_0f7a4_21 : decode cJ6_bitCount_0f7a4 21 = .ok (.iand, 1) := by decide +kernel
theorem dJ6_bitCount_0f7a4_22 : decode cJ6_bitCount_0f7a4 22 = .ok (.iadd, 1) := by decide +kernel
theorem dJ6_bitCount_0f7a4_23 : decode cJ6_bitCount_0f7a4 23 = .ok (.istore_n 0, 1) := by decide +kernel
theorem dJ6_bitCount_0f7a4_24 : decode cJ6_bitCount_0f7a4 24 = .ok (.iload_n 0, 1) := by decide +kernel
theorem dJ6_bitCount_0f7a4_25 : decode cJ6_bitCount_0f7a4 25 = .ok (.iload_n 0, 1) := by decide +kernel
theorem dJ6_bitCount_0f7a4_26 : decode cJ6_bitCount_0f7a4 26 = .ok (.iconst 4, 1) := by decide +kernel
theorem dJ6_bitCount_0f7a4_27 : decode cJ6_bitCount_0f7a4 27 = .ok (.iushr, 1) := by decide +kernel
theorem dJ6_bitCount_0f7a4_28 : decode cJ6_bitCount_0f7a4 28 = .ok (.iadd, 1) := by decide +kernel
theorem dJ6_bitCount_0f7a4_29 : decode cJ6_bitCount_0f7a4 29 = .ok (.ldc_w 267, 3) := by decide +kernel
theorem dJ6_bitCount_0f7a4_32 : decode cJ6_bitCount_0f7a4 32 = .ok (.iand, 1) := by decide +kernel
theorem dJ6_bitCount_0f7a4_33 : decode cJ6_bitCount_0f7a4 33 = .ok (.istore_n 0, 1) := by decide +kernel
theorem dJ6_bitCount_0f7a4_34 : decode cJ6_bitCount_0f7a4 34 = .ok (.iload_n 0, 1) := by decide +kernel
theorem dJ6_bitCount_0f7a4_35 : decode cJ6_bitCount_0f7a4 35 = .ok (.iload_n 0, 1) := by decide +kernel
theorem dJ6_bitCount_0f7a4_36 : decode cJ6_bitCount_0f7a4 36 = .ok (.bipush 8, 2) := by decide +kernel
theorem dJ6_bitCount_0f7a4_38 : decode cJ6_bitCount_0f7a4 38 = .ok (.iushr, 1) := by decide +kernel
theorem dJ6_bitCount_0f7a4_39 : decode cJ6_bitCount_0f7a4 39 = .ok (.iadd, 1) := by decide +kernel
theorem dJ6_bitCount_0f7a4_40 : decode cJ6_bitCount_0f7a4 40 = .ok (.istore_n 0, 1) := by decide +kernel
theorem dJ6_bitCount_0f7a4_41 : decode cJ6_bitCount_0f7a4 41 = .ok (.iload_n 0, 1) := by decide +kernel
theorem dJ6_bitCount_0f7a4_42 : decode cJ6_bitCount_0f7a4 42 = .ok (.iload_n 0, 1) := by decide +kernel
theorem dJ6_bitCount_0f7a4_43 : decode cJ6_bitCount_0f7a4 43 = .ok (.bipush 16, 2) := by decide +kernel
theorem dJ6_bitCount_0f7a4_45 : decode cJ6_bitCount_0f7a4 45 = .ok (.iushr, 1) := by decide +kernel
theorem dJ6_bitCount_0f7a4_46 : decode cJ6_bitCount_0f7a4 46 = .ok (.iadd, 1) := by decide +kernel
theorem dJ6_bitCount_0f7a4_47 : decode cJ6_bitCount_0f7a4 47 = .ok (.istore_n 0, 1) := by decide +kernel
theorem dJ6_bitCount_0f7a4_48 : decode cJ6_bitCount_0f7a4 48 = .ok (.iload_n 0, 1) := by decide +kernel
theorem dJ6_bitCount_0f7a4_49 : decode cJ6_bitCount_0f7a4 49 = .ok (.bipush 63, 2) := by decide +kernel
theorem dJ6_bitCount_0f7a4_51 : decode cJ6_bitCount_0f7a4 51 = .ok (.iand, 1) := by decide +kernel
theorem dJ6_bitCount_0f7a4_52 : decode cJ6_bitCount_0f7a4 52 = .ok (.ireturn, 1) := by decide +kernel
theorem dJ9_abs_0f7a4_0 : decode cJ9_abs_0f7a4 0 = .ok (.iload_n 0, 1) := by decide +kernel
theorem dJ9_abs_0f7a4_1 : decode cJ9_abs_0f7a4 1 = .ok (.ifCond .ge 8, 3) := by decide +kernel
theorem dJ9_abs_0f7a4_4 : decode cJ9_abs_0f7a4 4 = .ok (.iload_n 0, 1) := by decide +kernel
theorem dJ9_abs_0f7a4_5 : decode cJ9_abs_0f7a4 5 = .ok (.ineg, 1) := by decide +kernel
theorem dJ9_abs_0f7a4_6 : decode cJ9_abs_0f7a4 6 = .ok (.goto 4, 3) := by decide +kernel
theorem dJ9_abs_0f7a4_9 : decode cJ9_abs_0f7a4 9 = .ok (.iload_n 0, 1) := by decide +kernel
theorem dJ9_abs_0f7a4_10 : decode cJ9_abs_0f7a4 10 = .ok (.ireturn, 1) := by decide +kernel
theorem dJ9_max_7cf53_0 : decode cJ9_max_7cf53 0 = .ok (.iload_n 0, 1) := by decide +kernel
theorem dJ9_max_7cf53_1 : decode cJ9_max_7cf53 1 = .ok (.iload_n 1, 1) := by decide +kernel
theorem dJ9_max_7cf53_2 : decode cJ9_max_7cf53 2 = .ok (.if_icmp .lt 7, 3) := by decide +kernel
theorem dJ9_max_7cf53_5 : decode cJ9_max_7cf53 5 = .ok (.iload_n 0, 1) := by decide +kernel
theorem dJ9_max_7cf53_6 : decode cJ9_max_7cf53 6 = .ok (.goto 4, 3) := by decide +kernel
theorem dJ9_max_7cf53_9 : decode cJ9_max_7cf53 9 = .ok (.iload_n 1, 1) := by decide +kernel
theorem dJ9_max_7cf53_10 : decode cJ9_max_7cf53 10 = .ok (.ireturn, 1) := by decide +kernel
theorem dJ9_min_7cf53_0 : decode cJ9_min_7cf53 0 = .ok (.iload_n 0, 1) := by decide +kernel
theorem dJ9_min_7cf53_1 : decode cJ9_min_7cf53 1 = .ok (.iload_n 1, 1) := by decide +kernel
theorem dJ9_min_7cf53_2 : decode cJ9_min_7cf53 2 = .ok (.if_icmp .gt 7, 3) := by decide +kernel
theorem dJ9_min_7cf53_5 : decode cJ9_min_7cf53 5 = .ok (.iload_n 0, 1) := by decide +kernel
theorem dJ9_min_7cf53_6 : decode cJ9_min_7cf53 6 = .ok (.goto 4, 3) := by decide +kernel
theorem dJ9_min_7cf53_9 : decode cJ9_min_7cf53 9 = .ok (.iload_n 1, 1) := by decide +kernel
theorem dJ9_min_7cf53_10 : decode cJ9_min_7cf53 10 = .ok (.ireturn, 1) := by decide +kernel
theorem dJ0_length_8abf5_0 : decode cJ0_length_8abf5 0 = .ok (.aload_n 0, 1) := by decide +kernel
theorem dJ0_length_8abf5_1 : decode cJ0_length_8abf5 1 = .ok (.getfield 9, 3) := by decide +kernel
theorem dJ0_length_8abf5_4 : decode cJ0_length_8abf5 4 = .ok (.arraylength, 1) := by decide +kernel
theorem dJ0_length_8abf5_5 : decode cJ0_length_8abf5 5 = .ok (.aload_n 0, 1) := by decide +kernel
theorem dJ0_length_8abf5_6 : decode cJ0_length_8abf5 6 = .ok (.invokevirtual 335, 3) := by decide +kernel
theorem dJ0_length_8abf5_9 : decode cJ0_length_8abf5 9 = .ok (.ishr, 1) := by decide +kernel
theorem dJ0_length_8abf5_10 : decode cJ0_length_8abf5 10 = .ok (.ireturn, 1) := by decide +kernel
theorem dJ0_charAt_5068e_0 : decode cJ0_charAt_5068e 0 = .ok (.aload_n 0, 1) := by decide +kernel
theorem dJ0_charAt_5068e_1 : decode cJ0_charAt_5068e 1 = .ok (.invokevirtual 492, 3) := by decide +kernel
theorem dJ0_charAt_5068e_4 : decode cJ0_charAt_5068e 4 = .ok (.ifCond .eq 12, 3) := by decide +kernel
theorem dJ0_charAt_5068e_7 : decode cJ0_charAt_5068e 7 = .ok (.aload_n 0, 1) := by decide +kernel
theorem dJ0_charAt_5068e_8 : decode cJ0_charAt_5068e 8 = .ok (.getfield 9, 3) := by decide +kernel
theorem dJ0_charAt_5068e_11 : decode cJ0_charAt_5068e 11 = .ok (.iload_n 1, 1) := by decide +kernel
theorem dJ0_charAt_5068e_12 : decode cJ0_charAt_5068e 12 = .ok (.invokestatic 495, 3) := by decide +kernel
theorem dJ0_charAt_5068e_15 : decode cJ0_charAt_5068e 15 = .ok (.ireturn, 1) := by decide +kernel
theorem dJ0_charAt_5068e_16 : decode cJ0_charAt_5068e 16 = .ok (.aload_n 0, 1) := by decide +kernel
theorem dJ0_charAt_5068e_17 : decode cJ0_charAt_5068e 17 = .ok (.getfield 9, 3) := by decide +kernel
theorem dJ0_charAt_5068e_20 : decode cJ0_charAt_5068e 20 = .ok (.iload_n 1, 1) := by decide +kernel
theorem dJ0_charAt_5068e_21 : decode cJ0_charAt_5068e 21 = .ok (.invokestatic 498, 3) := by decide +kernel
theorem dJ0_charAt_5068e_24 : decode cJ0_charAt_5068e 24 = .ok (.ireturn, 1) := by decide +kernel
theorem dJ0_coder_7d493_0 : decode cJ0_coder_7d493 0 = .ok (.getstatic 38, 3) := by decide +kernel
theorem dJ0_coder_7d493_3 : decode cJ0_coder_7d493 3 = .ok (.ifCond .eq 10, 3) := by decide +kernel
theorem dJ0_coder_7d493_6 : decode cJ0_coder_7d493 6 = .ok (.aload_n 0, 1) := by decide +kernel
theorem dJ0_coder_7d493_7 : decode cJ0_coder_7d493 7 = .ok (.getfield 15, 3) := by decide +kernel
theorem dJ0_coder_7d493_10 : decode cJ0_coder_7d493 10 = .ok (.goto 4, 3) := by decide +kernel
theorem dJ0_coder_7d493_13 : decode cJ0_coder_7d493 13 = .ok (.iconst 1, 1) := by decide +kernel
theorem dJ0_coder_7d493_14 : decode cJ0_coder_7d493 14 = .ok (.ireturn, 1) := by decide +kernel
theorem dJ0_isLatin1_aae02_0 : decode cJ0_isLatin1_aae02 0 = .ok (.getstatic 38, 3) := by decide +kernel
theorem dJ0_isLatin1_aae02_3 : decode cJ0_isLatin1_aae02 3 = .ok (.ifCond .eq 14, 3) := by decide +kernel
theorem dJ0_isLatin1_aae02_6 : decode cJ0_isLatin1_aae02 6 = .ok (.aload_n 0, 1) := by decide +kernel
theorem dJ0_isLatin1_aae02_7 : decode cJ0_isLatin1_aae02 7 = .ok (.getfield 15, 3) := by decide +kernel
theorem dJ0_isLatin1_aae02_10 : decode cJ0_isLatin1_aae02 10 = .ok (.ifCond .ne 7, 3) := by decide +kernel
theorem dJ0_isLatin1_aae02_13 : decode cJ0_isLatin1_aae02 13 = .ok (.iconst 1, 1) := by decide +kernel
theorem dJ0_isLatin1_aae02_14 : decode cJ0_isLatin1_aae02 14 = .ok (.goto 4, 3) := by decide +kernel
theorem dJ0_isLatin1_aae02_17 : decode cJ0_isLatin1_aae02 17 = .ok (.iconst 0, 1) := by decide +kernel
theorem dJ0_isLatin1_aae02_18 : decode cJ0_isLatin1_aae02 18 = .ok (.ireturn, 1) := by decide +kernel
theorem dJ0_checkIndex_df160_0 : decode cJ0_checkIndex_df160 0 = .ok (.iload_n 0, 1) := by decide +kernel
theorem dJ0_checkIndex_df160_1 : decode cJ0_checkIndex_df160 1 = .ok (.iload_n 1, 1) := by decide +kernel
theorem dJ0_checkIndex_df160_2 : decode cJ0_checkIndex_df160 2 = .ok (.getstatic 1053, 3) := by decide +kernel
theorem dJ0_checkIndex_df160_5 : decode cJ0_checkIndex_df160 5 = .ok (.invokestatic 1059, 3) := by decide +kernel
theorem dJ0_checkIndex_df160_8 : decode cJ0_checkIndex_df160 8 = .ok (.pop, 1) := by decide +kernel
theorem dJ0_checkIndex_df160_9 : decode cJ0_checkIndex_df160 9 = .ok (.return_, 1) := by decide +kernel
theorem dJ1_charAt_3b067_0 : decode cJ1_charAt_3b067 0 = .ok (.iload_n 1, 1) := by decide +kernel
theorem dJ1_charAt_3b067_1 : decode cJ1_charAt_3b067 1 = .ok (.aload_n 0, 1) := by decide +kernel
theorem dJ1_charAt_3b067_2 : decode cJ1_charAt_3b067 2 = .ok (.arraylength, 1) := by decide +kernel
theorem dJ1_charAt_3b067_3 : decode cJ1_charAt_3b067 3 = .ok (.invokestatic 9, 3) := by decide +kernel
theorem dJ1_charAt_3b067_6 : decode cJ1_charAt_3b067 6 = .ok (.aload_n 0, 1) := by decide +kernel
theorem dJ1_charAt_3b067_7 : decode cJ1_charAt_3b067 7 = .ok (.iload_n 1, 1) := by decide +kernel
theorem dJ1_charAt_3b067_8 : decode cJ1_charAt_3b067 8 = .ok (.baload, 1) := by decide +kernel
theorem dJ1_charAt_3b067_9 : decode cJ1_charAt_3b067 9 = .ok (.sipush 255, 3) := by decide +kernel
theorem dJ1_charAt_3b067_12 : decode cJ1_charAt_3b067 12 = .ok (.iand, 1) := by decide +kernel
theorem dJ1_charAt_3b067_13 : decode cJ1_charAt_3b067 13 = .ok (.i2c, 1) := by decide +kernel
theorem dJ1_charAt_3b067_14 : decode cJ1_charAt_3b067 14 = .ok (.ireturn, 1) := by decide +kernel
theorem dJ2_getChar_3b067_0 : decode cJ2_getChar_3b067 0 = .ok (.getstatic 44, 3) := by decide +kernel
theorem dJ2_getChar_3b067_3 : decode cJ2_getChar_3b067 3 = .ok (.ifCond .ne 25, 3) := by decide +kernel
theorem dJ2_getChar_3b067_6 : decode cJ2_getChar_3b067 6 = .ok (.iload_n 1, 1) := by decide +kernel
theorem dJ2_getChar_3b067_7 : decode cJ2_getChar_3b067 7 = .ok (.ifCond .lt 11, 3) := by decide +kernel
theorem dJ2_getChar_3b067_10 : decode cJ2_getChar_3b067 10 = .ok (.iload_n 1, 1) := by decide +kernel
theorem dJ2_getChar_3b067_11 : decode cJ2_getChar_3b067 11 = .ok (.aload_n 0, 1) := by decide +kernel
theorem dJ2_getChar_3b067_12 : decode cJ2_getChar_3b067 12 = .ok (.invokestatic 48, 3) := by decide +kernel
theorem dJ2_getChar_3b067_15 : decode cJ2_getChar_3b067 15 = .ok (.if_icmp .lt 13, 3) := by decide +kernel
theorem dJ2_getChar_3b067_18 : decode cJ2_getChar_3b067 18 = .ok (.new 52, 3) := by decide +kernel
theorem dJ2_getChar_3b067_21 : decode cJ2_getChar_3b067 21 = .ok (.dup, 1) := by decide +kernel
theorem dJ2_getChar_3b067_22 : decode cJ2_getChar_3b067 22 = .ok (.ldc 54, 2) := by decide +kernel
theorem dJ2_getChar_3b067_24 : decode cJ2_getChar_3b067 24 = .ok (.invokespecial 56, 3) := by decide +kernel
theorem dJ2_getChar_3b067_27 : decode cJ2_getChar_3b067 27 = .ok (.athrow, 1) := by decide +kernel
theorem dJ2_getChar_3b067_28 : decode cJ2_getChar_3b067 28 = .ok (.iload_n 1, 1) := by decide +kernel
theorem dJ2_getChar_3b067_29 : decode cJ2_getChar_3b067 29 = .ok (.iconst 1, 1) := by decide +kernel
theorem dJ2_getChar_3b067_30 : decode cJ2_getChar_3b067 30 = .ok (.ishl, 1) := by decide +kernel
theorem dJ2_getChar_3b067_31 : decode cJ2_getChar_3b067 31 = .ok (.istore_n 1, 1) := by decide +kernel
theorem dJ2_getChar_3b067_32 : decode cJ2_getChar_3b067 32 = .ok (.aload_n 0, 1) := by decide +kernel
theorem dJ2_getChar_3b067_33 : decode cJ2_getChar_3b067 33 = .ok (.iload_n 1, 1) := by decide +kernel
theorem dJ2_getChar_3b067_34 : decode cJ2_getChar_3b067 34 = .ok (.iinc 1 1, 3) := by decide +kernel
theorem dJ2_getChar_3b067_37 : decode cJ2_getChar_3b067 37 = .ok (.baload, 1) := by decide +kernel
theorem dJ2_getChar_3b067_38 : decode cJ2_getChar_3b067 38 = .ok (.sipush 255, 3) := by decide +kernel
theorem dJ2_getChar_3b067_41 : decode cJ2_getChar_3b067 41 = .ok (.iand, 1) := by decide +kernel
theorem dJ2_getChar_3b067_42 : decode cJ2_getChar_3b067 42 = .ok (.getstatic 59, 3) := by decide +kernel
theorem dJ2_getChar_3b067_45 : decode cJ2_getChar_3b067 45 = .ok (.ishl, 1) := by decide +kernel
theorem dJ2_getChar_3b067_46 : decode cJ2_getChar_3b067 46 = .ok (.aload_n 0, 1) := by decide +kernel
theorem dJ2_getChar_3b067_47 : decode cJ2_getChar_3b067 47 = .ok (.iload_n 1, 1) := by decide +kernel
theorem dJ2_getChar_3b067_48 : decode cJ2_getChar_3b067 48 = .ok (.baload, 1) := by decide +kernel
theorem dJ2_getChar_3b067_49 : decode cJ2_getChar_3b067 49 = .ok (.sipush 255, 3) := by decide +kernel
theorem dJ2_getChar_3b067_52 : decode cJ2_getChar_3b067 52 = .ok (.iand, 1) := by decide +kernel
theorem dJ2_getChar_3b067_53 : decode cJ2_getChar_3b067 53 = .ok (.getstatic 63, 3) := by decide +kernel
theorem dJ2_getChar_3b067_56 : decode cJ2_getChar_3b067 56 = .ok (.ishl, 1) := by decide +kernel
theorem dJ2_getChar_3b067_57 : decode cJ2_getChar_3b067 57 = .ok (.ior, 1) := by decide +kernel
theorem dJ2_getChar_3b067_58 : decode cJ2_getChar_3b067 58 = .ok (.i2c, 1) := by decide +kernel
theorem dJ2_getChar_3b067_59 : decode cJ2_getChar_3b067 59 = .ok (.ireturn, 1) := by decide +kernel
theorem dJ2_length_9d52b_0 : decode cJ2_length_9d52b 0 = .ok (.aload_n 0, 1) := by decide +kernel
theorem dJ2_length_9d52b_1 : decode cJ2_length_9d52b 1 = .ok (.arraylength, 1) := by decide +kernel
theorem dJ2_length_9d52b_2 : decode cJ2_length_9d52b 2 = .ok (.iconst 1, 1) := by decide +kernel
theorem dJ2_length_9d52b_3 : decode cJ2_length_9d52b 3 = .ok (.ishr, 1) := by decide +kernel
theorem dJ2_length_9d52b_4 : decode cJ2_length_9d52b 4 = .ok (.ireturn, 1) := by decide +kernel
theorem dJ2_charAt_3b067_0 : decode cJ2_charAt_3b067 0 = .ok (.iload_n 1, 1) := by decide +kernel
theorem dJ2_charAt_3b067_1 : decode cJ2_charAt_3b067 1 = .ok (.aload_n 0, 1) := by decide +kernel
theorem dJ2_charAt_3b067_2 : decode cJ2_charAt_3b067 2 = .ok (.invokestatic 67, 3) := by decide +kernel
theorem dJ2_charAt_3b067_5 : decode cJ2_charAt_3b067 5 = .ok (.aload_n 0, 1) := by decide +kernel
theorem dJ2_charAt_3b067_6 : decode cJ2_charAt_3b067 6 = .ok (.iload_n 1, 1) := by decide +kernel
theorem dJ2_charAt_3b067_7 : decode cJ2_charAt_3b067 7 = .ok (.invokestatic 71, 3) := by decide +kernel
theorem dJ2_charAt_3b067_10 : decode cJ2_charAt_3b067 10 = .ok (.ireturn, 1) := by decide +kernel
theorem dJ2_checkIndex_2214a_0 : decode cJ2_checkIndex_2214a 0 = .ok (.iload_n 0, 1) := by decide +kernel
theorem dJ2_checkIndex_2214a_1 : decode cJ2_checkIndex_2214a 1 = .ok (.aload_n 1, 1) := by decide +kernel
theorem dJ2_checkIndex_2214a_2 : decode cJ2_checkIndex_2214a 2 = .ok (.invokestatic 48, 3) := by decide +kernel
theorem dJ2_checkIndex_2214a_5 : decode cJ2_checkIndex_2214a 5 = .ok (.invokestatic 414, 3) := by decide +kernel
theorem dJ2_checkIndex_2214a_8 : decode cJ2_checkIndex_2214a 8 = .ok (.return_, 1) := by decide +kernel
theorem dJ7_fill_53178_0 : decode cJ7_fill_53178 0 = .ok (.iconst 0, 1) := by decide +kernel
theorem dJ7_fill_53178_1 : decode cJ7_fill_53178 1 = .ok (.istore_n 2, 1) := by decide +kernel
theorem dJ7_fill_53178_2 : decode cJ7_fill_53178 2 = .ok (.aload_n 0, 1) := by decide +kernel
theorem dJ7_fill_53178_3 : decode cJ7_fill_53178 3 = .ok (.arraylength, 1) := by decide +kernel
theorem dJ7_fill_53178_4 : decode cJ7_fill_53178 4 = .ok (.istore_n 3, 1) := by decide +kernel
theorem dJ7_fill_53178_5 : decode cJ7_fill_53178 5 = .ok (.iload_n 2, 1) := by decide +kernel
theorem dJ7_fill_53178_6 : decode cJ7_fill_53178 6 = .ok (.iload_n 3, 1) := by decide +kernel
theorem dJ7_fill_53178_7 : decode cJ7_fill_53178 7 = .ok (.if_icmp .ge 13, 3) := by decide +kernel
theorem dJ7_fill_53178_10 : decode cJ7_fill_53178 10 = .ok (.aload_n 0, 1) := by decide +kernel
theorem dJ7_fill_53178_11 : decode cJ7_fill_53178 11 = .ok (.iload_n 2, 1) := by decide +kernel
theorem dJ7_fill_53178_12 : decode cJ7_fill_53178 12 = .ok (.iload_n 1, 1) := by decide +kernel
theorem dJ7_fill_53178_13 : decode cJ7_fill_53178 13 = .ok (.iastore, 1) := by decide +kernel
theorem dJ7_fill_53178_14 : decode cJ7_fill_53178 14 = .ok (.iinc 2 1, 3) := by decide +kernel
theorem dJ7_fill_53178_17 : decode cJ7_fill_53178 17 = .ok (.goto (-12), 3) := by decide +kernel
theorem dJ7_fill_53178_20 : decode cJ7_fill_53178 20 = .ok (.return_, 1) := by decide +kernel
theorem dJ3_checkIndex_8e157_0 : decode cJ3_checkIndex_8e157 0 = .ok (.iload_n 0, 1) := by decide +kernel
theorem dJ3_checkIndex_8e157_1 : decode cJ3_checkIndex_8e157 1 = .ok (.ifCond .lt 8, 3) := by decide +kernel
theorem dJ3_checkIndex_8e157_4 : decode cJ3_checkIndex_8e157 4 = .ok (.iload_n 0, 1) := by decide +kernel
theorem dJ3_checkIndex_8e157_5 : decode cJ3_checkIndex_8e157 5 = .ok (.iload_n 1, 1) := by decide +kernel
theorem dJ3_checkIndex_8e157_6 : decode cJ3_checkIndex_8e157 6 = .ok (.if_icmp .lt 10, 3) := by decide +kernel
theorem dJ3_checkIndex_8e157_9 : decode cJ3_checkIndex_8e157 9 = .ok (.aload_n 2, 1) := by decide +kernel
theorem dJ3_checkIndex_8e157_10 : decode cJ3_checkIndex_8e157 10 = .ok (.iload_n 0, 1) := by decide +kernel
theorem dJ3_checkIndex_8e157_11 : decode cJ3_checkIndex_8e157 11 = .ok (.iload_n 1, 1) := by decide +kernel
theorem dJ3_checkIndex_8e157_12 : decode cJ3_checkIndex_8e157 12 = .ok (.invokestatic 95, 3) := by decide +kernel
theorem dJ3_checkIndex_8e157_15 : decode cJ3_checkIndex_8e157 15 = .ok (.athrow, 1) := by decide +kernel
theorem dJ3_checkIndex_8e157_16 : decode cJ3_checkIndex_8e157 16 = .ok (.iload_n 0, 1) := by decide +kernel
theorem dJ3_checkIndex_8e157_17 : decode cJ3_checkIndex_8e157 17 = .ok (.ireturn, 1) := by decide +kernel
theorem dL_law_0 : decode cL_law 0 = .ok (.new 7, 3) := by decide +kernel
theorem dL_law_3 : decode cL_law 3 = .ok (.dup, 1) := by decide +kernel
theorem dL_law_4 : decode cL_law 4 = .ok (.invokespecial 9, 3) := by decide +kernel
theorem dL_law_7 : decode cL_law 7 = .ok (.astore_n 1, 1) := by decide +kernel
theorem dL_law_8 : decode cL_law 8 = .ok (.new 10, 3) := by decide +kernel
theorem dL_law_11 : decode cL_law 11 = .ok (.dup, 1) := by decide +kernel
theorem dL_law_12 : decode cL_law 12 = .ok (.invokespecial 12, 3) := by decide +kernel
theorem dL_law_15 : decode cL_law 15 = .ok (.astore_n 2, 1) := by decide +kernel
theorem dL_law_16 : decode cL_law 16 = .ok (.iconst 0, 1) := by decide +kernel
theorem dL_law_17 : decode cL_law 17 = .ok (.istore_n 3, 1) := by decide +kernel
theorem dL_law_18 : decode cL_law 18 = .ok (.iload_n 3, 1) := by decide +kernel
theorem dL_law_19 : decode cL_law 19 = .ok (.aload_n 0, 1) := by decide +kernel
theorem dL_law_20 : decode cL_law 20 = .ok (.arraylength, 1) := by decide +kernel
theorem dL_law_21 : decode cL_law 21 = .ok (.iconst 4, 1) := by decide +kernel
theorem dL_law_22 : decode cL_law 22 = .ok (.isub, 1) := by decide +kernel
theorem dL_law_23 : decode cL_law 23 = .ok (.if_icmp .gt 874, 3) := by decide +kernel
theorem dL_law_26 : decode cL_law 26 = .ok (.aload_n 0, 1) := by decide +kernel
theorem dL_law_27 : decode cL_law 27 = .ok (.iload_n 3, 1) := by decide +kernel
theorem dL_law_28 : decode cL_law 28 = .ok (.iaload, 1) := by decide +kernel
theorem dL_law_29 : decode cL_law 29 = .ok (.bipush 31, 2) := by decide +kernel
theorem dL_law_31 : decode cL_law 31 = .ok (.iand, 1) := by decide +kernel
theorem dL_law_32 : decode cL_law 32 = .ok (.tableswitch 859 0 28 #[132, 155, 168, 181, 194, 227, 260, 283, 306, 339, 382, 415, 438, 451, 484, 497, 520, 533, 576, 599, 612, 655, 668, 701, 724, 767, 810, 823, 836], 132) := by decide +kernel
theorem dL_law_164 : decode cL_law 164 = .ok (.aload_n 1, 1) := by decide +kernel
theorem dL_law_165 : decode cL_law 165 = .ok (.aload_n 0, 1) := by decide +kernel
theorem dL_law_166 : decode cL_law 166 = .ok (.iload_n 3, 1) := by decide +kernel
theorem dL_law_167 : decode cL_law 167 = .ok (.iconst 1, 1) := by decide +kernel
theorem dL_law_168 : decode cL_law 168 = .ok (.iadd, 1) := by decide +kernel
theorem dL_law_169 : decode cL_law 169 = .ok (.iaload, 1) := by decide +kernel
theorem dL_law_170 : decode cL_law 170 = .ok (.invokevirtual 13, 3) := by decide +kernel
theorem dL_law_173 : decode cL_law 173 = .ok (.aload_n 2, 1) := by decide +kernel
theorem dL_law_174 : decode cL_law 174 = .ok (.aload_n 0, 1) := by decide +kernel
theorem dL_law_175 : decode cL_law 175 = .ok (.iload_n 3, 1) := by decide +kernel
theorem dL_law_176 : decode cL_law 176 = .ok (.iconst 1, 1) := by decide +kernel
theorem dL_law_177 : decode cL_law 177 = .ok (.iadd, 1) := by decide +kernel
theorem dL_law_178 : decode cL_law 178 = .ok (.iaload, 1) := by decide +kernel
theorem dL_law_179 : decode cL_law 179 = .ok (.invokevirtual 17, 3) := by decide +kernel
theorem dL_law_182 : decode cL_law 182 = .ok (.if_icmp .eq 709, 3) := by decide +kernel
theorem dL_law_185 : decode cL_law 185 = .ok (.iconst 0, 1) := by decide +kernel
theorem dL_law_186 : decode cL_law 186 = .ok (.ireturn, 1) := by decide +kernel
theorem dL_law_187 : decode cL_law 187 = .ok (.aload_n 1, 1) := by decide +kernel
theorem dL_law_188 : decode cL_law 188 = .ok (.invokevirtual 18, 3) := by decide +kernel
theorem dL_law_191 : decode cL_law 191 = .ok (.aload_n 2, 1) := by decide +kernel
theorem dL_law_192 : decode cL_law 192 = .ok (.invokevirtual 22, 3) := by decide +kernel
theorem dL_law_195 : decode cL_law 195 = .ok (.if_icmp .eq 696, 3) := by decide +kernel
theorem dL_law_198 : decode cL_law 198 = .ok (.iconst 0, 1) := by decide +kernel
theorem dL_law_199 : decode cL_law 199 = .ok (.ireturn, 1) := by decide +kernel
theorem dL_law_200 : decode cL_law 200 = .ok (.aload_n 1, 1) := by decide +kernel
theorem dL_law_201 : decode cL_law 201 = .ok (.invokevirtual 23, 3) := by decide +kernel
theorem dL_law_204 : decode cL_law 204 = .ok (.aload_n 2, 1) := by decide +kernel
theorem dL_law_205 : decode cL_law 205 = .ok (.invokevirtual 26, 3) := by decide +kernel
theorem dL_law_208 : decode cL_law 208 = .ok (.if_icmp .eq 683, 3) := by decide +kernel
theorem dL_law_211 : decode cL_law 211 = .ok (.iconst 0, 1) := by decide +kernel
theorem dL_law_212 : decode cL_law 212 = .ok (.ireturn, 1) := by decide +kernel
theorem dL_law_213 : decode cL_law 213 = .ok (.aload_n 1, 1) := by decide +kernel
theorem dL_law_214 : decode cL_law 214 = .ok (.invokevirtual 27, 3) := by decide +kernel
theorem dL_law_217 : decode cL_law 217 = .ok (.aload_n 2, 1) := by decide +kernel
theorem dL_law_218 : decode cL_law 218 = .ok (.invokevirtual 30, 3) := by decide +kernel
theorem dL_law_221 : decode cL_law 221 = .ok (.if_icmp .eq 670, 3) := by decide +kernel
theorem dL_law_224 : decode cL_law 224 = .ok (.iconst 0, 1) := by decide +kernel
theorem dL_law_225 : decode cL_law 225 = .ok (.ireturn, 1) := by decide +kernel
theorem dL_law_226 : decode cL_law 226 = .ok (.aload_n 1, 1) := by decide +kernel
theorem dL_law_227 : decode cL_law 227 = .ok (.aload_n 0, 1) := by decide +kernel
theorem dL_law_228 : decode cL_law 228 = .ok (.iload_n 3, 1) := by decide +kernel
theorem dL_law_229 : decode cL_law 229 = .ok (.iconst 1, 1) := by decide +kernel
theorem dL_law_230 : decode cL_law 230 = .ok (.iadd, 1) := by decide +kernel
theorem dL_law_231 : decode cL_law 231 = .ok (.iaload, 1) := by decide +kernel
theorem dL_law_232 : decode cL_law 232 = .ok (.aload_n 0, 1) := by decide +kernel
theorem dL_law_233 : decode cL_law 233 = .ok (.iload_n 3, 1) := by decide +kernel
theorem dL_law_234 : decode cL_law 234 = .ok (.iconst 2, 1) := by decide +kernel
theorem dL_law_235 : decode cL_law 235 = .ok (.iadd, 1) := by decide +kernel
theorem dL_law_236 : decode cL_law 236 = .ok (.iaload, 1) := by decide +kernel
theorem dL_law_237 : decode cL_law 237 = .ok (.invokevirtual 31, 3) := by decide +kernel
theorem dL_law_240 : decode cL_law 240 = .ok (.aload_n 2, 1) := by decide +kernel
theorem dL_law_241 : decode cL_law 241 = .ok (.aload_n 0, 1) := by decide +kernel
theorem dL_law_242 : decode cL_law 242 = .ok (.iload_n 3, 1) := by decide +kernel
theorem dL_law_243 : decode cL_law 243 = .ok (.iconst 1, 1) := by decide +kernel
theorem dL_law_244 : decode cL_law 244 = .ok (.iadd, 1) := by decide +kernel
theorem dL_law_245 : decode cL_law 245 = .ok (.iaload, 1) := by decide +kernel
theorem dL_law_246 : decode cL_law 246 = .ok (.aload_n 0, 1) := by decide +kernel
theorem dL_law_247 : decode cL_law 247 = .ok (.iload_n 3, 1) := by decide +kernel
theorem dL_law_248 : decode cL_law 248 = .ok (.iconst 2, 1) := by decide +kernel
theorem dL_law_249 : decode cL_law 249 = .ok (.iadd, 1) := by decide +kernel
theorem dL_law_250 : decode cL_law 250 = .ok (.iaload, 1) := by decide +kernel
theorem dL_law_251 : decode cL_law 251 = .ok (.invokevirtual 35, 3) := by decide +kernel
theorem dL_law_254 : decode cL_law 254 = .ok (.if_icmp .eq 637, 3) := by decide +kernel
theorem dL_law_257 : decode cL_law 257 = .ok (.iconst 0, 1) := by decide +kernel
theorem dL_law_258 : decode cL_law 258 = .ok (.ireturn, 1) := by decide +kernel
theorem dL_law_259 : decode cL_law 259 = .ok (.aload_n 1, 1) := by decide +kernel
theorem dL_law_260 : decode cL_law 260 = .ok (.aload_n 0, 1) := by decide +kernel
theorem dL_law_261 : decode cL_law 261 = .ok (.iload_n 3, 1) := by decide +kernel
theorem dL_law_262 : decode cL_law 262 = .ok (.iconst 1, 1) := by decide +kernel
theorem dL_law_263 : decode cL_law 263 = .ok (.iadd, 1) := by decide +kernel
theorem dL_law_264 : decode cL_law 264 = .ok (.iaload, 1) := by decide +kernel
theorem dL_law_265 : decode cL_law 265 = .ok (.aload_n 0, 1) := by decide +kernel
theorem dL_law_266 : decode cL_law 266 = .ok (.iload_n 3, 1) := by decide +kernel
theorem dL_law_267 : decode cL_law 267 = .ok (.iconst 2, 1) := by decide +kernel
theorem dL_law_268 : decode cL_law 268 = .ok (.iadd, 1) := by decide +kernel
theorem dL_law_269 : decode cL_law 269 = .ok (.iaload, 1) := by decide +kernel
theorem dL_law_270 : decode cL_law 270 = .ok (.invokevirtual 36, 3) := by decide +kernel
theorem dL_law_273 : decode cL_law 273 = .ok (.aload_n 2, 1) := by decide +kernel
theorem dL_law_274 : decode cL_law 274 = .ok (.aload_n 0, 1) := by decide +kernel
theorem dL_law_275 : decode cL_law 275 = .ok (.iload_n 3, 1) := by decide +kernel
theorem dL_law_276 : decode cL_law 276 = .ok (.iconst 1, 1) := by decide +kernel
theorem dL_law_277 : decode cL_law 277 = .ok (.iadd, 1) := by decide +kernel
theorem dL_law_278 : decode cL_law 278 = .ok (.iaload, 1) := by decide +kernel
theorem dL_law_279 : decode cL_law 279 = .ok (.aload_n 0, 1) := by decide +kernel
theorem dL_law_280 : decode cL_law 280 = .ok (.iload_n 3, 1) := by decide +kernel
theorem dL_law_281 : decode cL_law 281 = .ok (.iconst 2, 1) := by decide +kernel
theorem dL_law_282 : decode cL_law 282 = .ok (.iadd, 1) := by decide +kernel
theorem dL_law_283 : decode cL_law 283 = .ok (.iaload, 1) := by decide +kernel
theorem dL_law_284 : decode cL_law 284 = .ok (.invokevirtual 39, 3) := by decide +kernel
theorem dL_law_287 : decode cL_law 287 = .ok (.if_icmp .eq 604, 3) := by decide +kernel
theorem dL_law_290 : decode cL_law 290 = .ok (.iconst 0, 1) := by decide +kernel
theorem dL_law_291 : decode cL_law 291 = .ok (.ireturn, 1) := by decide +kernel
theorem dL_law_292 : decode cL_law 292 = .ok (.aload_n 1, 1) := by decide +kernel
theorem dL_law_293 : decode cL_law 293 = .ok (.aload_n 0, 1) := by decide +kernel
theorem dL_law_294 : decode cL_law 294 = .ok (.iload_n 3, 1) := by decide +kernel
theorem dL_law_295 : decode cL_law 295 = .ok (.iconst 1, 1) := by decide +kernel
theorem dL_law_296 : decode cL_law 296 = .ok (.iadd, 1) := by decide +kernel
theorem dL_law_297 : decode cL_law 297 = .ok (.iaload, 1) := by decide +kernel
theorem dL_law_298 : decode cL_law 298 = .ok (.invokevirtual 40, 3) := by decide +kernel
theorem dL_law_301 : decode cL_law 301 = .ok (.aload_n 2, 1) := by decide +kernel
theorem dL_law_302 : decode cL_law 302 = .ok (.aload_n 0, 1) := by decide +kernel
theorem dL_law_303 : decode cL_law 303 = .ok (.iload_n 3, 1) := by decide +kernel
theorem dL_law_304 : decode cL_law 304 = .ok (.iconst 1, 1) := by decide +kernel
theorem dL_law_305 : decode cL_law 305 = .ok (.iadd, 1) := by decide +kernel
theorem dL_law_306 : decode cL_law 306 = .ok (.iaload, 1) := by decide +kernel
theorem dL_law_307 : decode cL_law 307 = .ok (.invokevirtual 43, 3) := by decide +kernel
theorem dL_law_310 : decode cL_law 310 = .ok (.if_icmp .eq 581, 3) := by decide +kernel
theorem dL_law_313 : decode cL_law 313 = .ok (.iconst 0, 1) := by decide +kernel
theorem dL_law_314 : decode cL_law 314 = .ok (.ireturn, 1) := by decide +kernel
theorem dL_law_315 : decode cL_law 315 = .ok (.aload_n 1, 1) := by decide +kernel
theorem dL_law_316 : decode cL_law 316 = .ok (.aload_n 0, 1) := by decide +kernel
theorem dL_law_317 : decode cL_law 317 = .ok (.iload_n 3, 1) := by decide +kernel
theorem dL_law_318 : decode cL_law 318 = .ok (.iconst 1, 1) := by decide +kernel
theorem dL_law_319 : decode cL_law 319 = .ok (.iadd, 1) := by decide +kernel
theorem dL_law_320 : decode cL_law 320 = .ok (.iaload, 1) := by decide +kernel
theorem dL_law_321 : decode cL_law 321 = .ok (.invokevirtual 44, 3) := by decide +kernel
theorem dL_law_324 : decode cL_law 324 = .ok (.aload_n 2, 1) := by decide +kernel
theorem dL_law_325 : decode cL_law 325 = .ok (.aload_n 0, 1) := by decide +kernel
theorem dL_law_326 : decode cL_law 326 = .ok (.iload_n 3, 1) := by decide +kernel
theorem dL_law_327 : decode cL_law 327 = .ok (.iconst 1, 1) := by decide +kernel
theorem dL_law_328 : decode cL_law 328 = .ok (.iadd, 1) := by decide +kernel
theorem dL_law_329 : decode cL_law 329 = .ok (.iaload, 1) := by decide +kernel
theorem dL_law_330 : decode cL_law 330 = .ok (.invokevirtual 47, 3) := by decide +kernel
theorem dL_law_333 : decode cL_law 333 = .ok (.if_icmp .eq 558, 3) := by decide +kernel
theorem dL_law_336 : decode cL_law 336 = .ok (.iconst 0, 1) := by decide +kernel
theorem dL_law_337 : decode cL_law 337 = .ok (.ireturn, 1) := by decide +kernel
theorem dL_law_338 : decode cL_law 338 = .ok (.aload_n 1, 1) := by decide +kernel
theorem dL_law_339 : decode cL_law 339 = .ok (.aload_n 0, 1) := by decide +kernel
theorem dL_law_340 : decode cL_law 340 = .ok (.iload_n 3, 1) := by decide +kernel
theorem dL_law_341 : decode cL_law 341 = .ok (.iconst 1, 1) := by decide +kernel
theorem dL_law_342 : decode cL_law 342 = .ok (.iadd, 1) := by decide +kernel
theorem dL_law_343 : decode cL_law 343 = .ok (.iaload, 1) := by decide +kernel
theorem dL_law_344 : decode cL_law 344 = .ok (.aload_n 0, 1) := by decide +kernel
theorem dL_law_345 : decode cL_law 345 = .ok (.iload_n 3, 1) := by decide +kernel
theorem dL_law_346 : decode cL_law 346 = .ok (.iconst 2, 1) := by decide +kernel
theorem dL_law_347 : decode cL_law 347 = .ok (.iadd, 1) := by decide +kernel
theorem dL_law_348 : decode cL_law 348 = .ok (.iaload, 1) := by decide +kernel
theorem dL_law_349 : decode cL_law 349 = .ok (.invokevirtual 48, 3) := by decide +kernel
theorem dL_law_352 : decode cL_law 352 = .ok (.aload_n 2, 1) := by decide +kernel
theorem dL_law_353 : decode cL_law 353 = .ok (.aload_n 0, 1) := by decide +kernel
theorem dL_law_354 : decode cL_law 354 = .ok (.iload_n 3, 1) := by decide +kernel
theorem dL_law_355 : decode cL_law 355 = .ok (.iconst 1, 1) := by decide +kernel
theorem dL_law_356 : decode cL_law 356 = .ok (.iadd, 1) := by decide +kernel
theorem dL_law_357 : decode cL_law 357 = .ok (.iaload, 1) := by decide +kernel
theorem dL_law_358 : decode cL_law 358 = .ok (.aload_n 0, 1) := by decide +kernel
theorem dL_law_359 : decode cL_law 359 = .ok (.iload_n 3, 1) := by decide +kernel
theorem dL_law_360 : decode cL_law 360 = .ok (.iconst 2, 1) := by decide +kernel
theorem dL_law_361 : decode cL_law 361 = .ok (.iadd, 1) := by decide +kernel
theorem dL_law_362 : decode cL_law 362 = .ok (.iaload, 1) := by decide +kernel
theorem dL_law_363 : decode cL_law 363 = .ok (.invokevirtual 51, 3) := by decide +kernel
theorem dL_law_366 : decode cL_law 366 = .ok (.if_icmp .eq 525, 3) := by decide +kernel
theorem dL_law_369 : decode cL_law 369 = .ok (.iconst 0, 1) := by decide +kernel
theorem dL_law_370 : decode cL_law 370 = .ok (.ireturn, 1) := by decide +kernel
theorem dL_law_371 : decode cL_law 371 = .ok (.aload_n 1, 1) := by decide +kernel
theorem dL_law_372 : decode cL_law 372 = .ok (.aload_n 0, 1) := by decide +kernel
theorem dL_law_373 : decode cL_law 373 = .ok (.iload_n 3, 1) := by decide +kernel
theorem dL_law_374 : decode cL_law 374 = .ok (.iconst 1, 1) := by decide +kernel
theorem dL_law_375 : decode cL_law 375 = .ok (.iadd, 1) := by decide +kernel
theorem dL_law_376 : decode cL_law 376 = .ok (.iaload, 1) := by decide +kernel
theorem dL_law_377 : decode cL_law 377 = .ok (.aload_n 0, 1) := by decide +kernel
theorem dL_law_378 : decode cL_law 378 = .ok (.iload_n 3, 1) := by decide +kernel
theorem dL_law_379 : decode cL_law 379 = .ok (.iconst 2, 1) := by decide +kernel
theorem dL_law_380 : decode cL_law 380 = .ok (.iadd, 1) := by decide +kernel
theorem dL_law_381 : decode cL_law 381 = .ok (.iaload, 1) := by decide +kernel
theorem dL_law_382 : decode cL_law 382 = .ok (.aload_n 0, 1) := by decide +kernel
theorem dL_law_383 : decode cL_law 383 = .ok (.iload_n 3, 1) := by decide +kernel
theorem dL_law_384 : decode cL_law 384 = .ok (.iconst 3, 1) := by decide +kernel
theorem dL_law_385 : decode cL_law 385 = .ok (.iadd, 1) := by decide +kernel
theorem dL_law_386 : decode cL_law 386 = .ok (.iaload, 1) := by decide +kernel
theorem dL_law_387 : decode cL_law 387 = .ok (.invokevirtual 52, 3) := by decide +kernel
theorem dL_law_390 : decode cL_law 390 = .ok (.aload_n 2, 1) := by decide +kernel
theorem dL_law_391 : decode cL_law 391 = .ok (.aload_n 0, 1) := by decide +kernel
theorem dL_law_392 : decode cL_law 392 = .ok (.iload_n 3, 1) := by decide +kernel
theorem dL_law_393 : decode cL_law 393 = .ok (.iconst 1, 1) := by decide +kernel
theorem dL_law_394 : decode cL_law 394 = .ok (.iadd, 1) := by decide +kernel
theorem dL_law_395 : decode cL_law 395 = .ok (.iaload, 1) := by decide +kernel
theorem dL_law_396 : decode cL_law 396 = .ok (.aload_n 0, 1) := by decide +kernel
theorem dL_law_397 : decode cL_law 397 = .ok (.iload_n 3, 1) := by decide +kernel
theorem dL_law_398 : decode cL_law 398 = .ok (.iconst 2, 1) := by decide +kernel
theorem dL_law_399 : decode cL_law 399 = .ok (.iadd, 1) := by decide +kernel
theorem dL_law_400 : decode cL_law 400 = .ok (.iaload, 1) := by decide +kernel
theorem dL_law_401 : decode cL_law 401 = .ok (.aload_n 0, 1) := by decide +kernel
theorem dL_law_402 : decode cL_law 402 = .ok (.iload_n 3, 1) := by decide +kernel
theorem dL_law_403 : decode cL_law 403 = .ok (.iconst 3, 1) := by decide +kernel
theorem dL_law_404 : decode cL_law 404 = .ok (.iadd, 1) := by decide +kernel
theorem dL_law_405 : decode cL_law 405 = .ok (.iaload, 1) := by decide +kernel
theorem dL_law_406 : decode cL_law 406 = .ok (.invokevirtual 56, 3) := by decide +kernel
theorem dL_law_409 : decode cL_law 409 = .ok (.if_icmp .eq 482, 3) := by decide +kernel
theorem dL_law_412 : decode cL_law 412 = .ok (.iconst 0, 1) := by decide +kernel
theorem dL_law_413 : decode cL_law 413 = .ok (.ireturn, 1) := by decide +kernel
theorem dL_law_414 : decode cL_law 414 = .ok (.aload_n 1, 1) := by decide +kernel
theorem dL_law_415 : decode cL_law 415 = .ok (.aload_n 0, 1) := by decide +kernel
theorem dL_law_416 : decode cL_law 416 = .ok (.iload_n 3, 1) := by decide +kernel
theorem dL_law_417 : decode cL_law 417 = .ok (.iconst 1, 1) := by decide +kernel
theorem dL_law_418 : decode cL_law 418 = .ok (.iadd, 1) := by decide +kernel
theorem dL_law_419 : decode cL_law 419 = .ok (.iaload, 1) := by decide +kernel
theorem dL_law_420 : decode cL_law 420 = .ok (.aload_n 0, 1) := by decide +kernel
theorem dL_law_421 : decode cL_law 421 = .ok (.iload_n 3, 1) := by decide +kernel
theorem dL_law_422 : decode cL_law 422 = .ok (.iconst 2, 1) := by decide +kernel
theorem dL_law_423 : decode cL_law 423 = .ok (.iadd, 1) := by decide +kernel
theorem dL_law_424 : decode cL_law 424 = .ok (.iaload, 1) := by decide +kernel
theorem dL_law_425 : decode cL_law 425 = .ok (.invokevirtual 57, 3) := by decide +kernel
theorem dL_law_428 : decode cL_law 428 = .ok (.aload_n 2, 1) := by decide +kernel
theorem dL_law_429 : decode cL_law 429 = .ok (.aload_n 0, 1) := by decide +kernel
theorem dL_law_430 : decode cL_law 430 = .ok (.iload_n 3, 1) := by decide +kernel
theorem dL_law_431 : decode cL_law 431 = .ok (.iconst 1, 1) := by decide +kernel
theorem dL_law_432 : decode cL_law 432 = .ok (.iadd, 1) := by decide +kernel
theorem dL_law_433 : decode cL_law 433 = .ok (.iaload, 1) := by decide +kernel
theorem dL_law_434 : decode cL_law 434 = .ok (.aload_n 0, 1) := by decide +kernel
theorem dL_law_435 : decode cL_law 435 = .ok (.iload_n 3, 1) := by decide +kernel
theorem dL_law_436 : decode cL_law 436 = .ok (.iconst 2, 1) := by decide +kernel
theorem dL_law_437 : decode cL_law 437 = .ok (.iadd, 1) := by decide +kernel
theorem dL_law_438 : decode cL_law 438 = .ok (.iaload, 1) := by decide +kernel
theorem dL_law_439 : decode cL_law 439 = .ok (.invokevirtual 60, 3) := by decide +kernel
theorem dL_law_442 : decode cL_law 442 = .ok (.if_icmp .eq 449, 3) := by decide +kernel
theorem dL_law_445 : decode cL_law 445 = .ok (.iconst 0, 1) := by decide +kernel
theorem dL_law_446 : decode cL_law 446 = .ok (.ireturn, 1) := by decide +kernel
theorem dL_law_447 : decode cL_law 447 = .ok (.aload_n 1, 1) := by decide +kernel
theorem dL_law_448 : decode cL_law 448 = .ok (.aload_n 0, 1) := by decide +kernel
theorem dL_law_449 : decode cL_law 449 = .ok (.iload_n 3, 1) := by decide +kernel
theorem dL_law_450 : decode cL_law 450 = .ok (.iconst 1, 1) := by decide +kernel
theorem dL_law_451 : decode cL_law 451 = .ok (.iadd, 1) := by decide +kernel
theorem dL_law_452 : decode cL_law 452 = .ok (.iaload, 1) := by decide +kernel
theorem dL_law_453 : decode cL_law 453 = .ok (.invokevirtual 61, 3) := by decide +kernel
theorem dL_law_456 : decode cL_law 456 = .ok (.aload_n 2, 1) := by decide +kernel
theorem dL_law_457 : decode cL_law 457 = .ok (.aload_n 0, 1) := by decide +kernel
theorem dL_law_458 : decode cL_law 458 = .ok (.iload_n 3, 1) := by decide +kernel
theorem dL_law_459 : decode cL_law 459 = .ok (.iconst 1, 1) := by decide +kernel
theorem dL_law_460 : decode cL_law 460 = .ok (.iadd, 1) := by decide +kernel
theorem dL_law_461 : decode cL_law 461 = .ok (.iaload, 1) := by decide +kernel
theorem dL_law_462 : decode cL_law 462 = .ok (.invokevirtual 64, 3) := by decide +kernel
theorem dL_law_465 : decode cL_law 465 = .ok (.if_icmp .eq 426, 3) := by decide +kernel
theorem dL_law_468 : decode cL_law 468 = .ok (.iconst 0, 1) := by decide +kernel
theorem dL_law_469 : decode cL_law 469 = .ok (.ireturn, 1) := by decide +kernel
theorem dL_law_470 : decode cL_law 470 = .ok (.aload_n 1, 1) := by decide +kernel
theorem dL_law_471 : decode cL_law 471 = .ok (.invokevirtual 65, 3) := by decide +kernel
theorem dL_law_474 : decode cL_law 474 = .ok (.aload_n 2, 1) := by decide +kernel
theorem dL_law_475 : decode cL_law 475 = .ok (.invokevirtual 68, 3) := by decide +kernel
theorem dL_law_478 : decode cL_law 478 = .ok (.if_icmp .eq 413, 3) := by decide +kernel
theorem dL_law_481 : decode cL_law 481 = .ok (.iconst 0, 1) := by decide +kernel
theorem dL_law_482 : decode cL_law 482 = .ok (.ireturn, 1) := by decide +kernel
theorem dL_law_483 : decode cL_law 483 = .ok (.aload_n 1, 1) := by decide +kernel
theorem dL_law_484 : decode cL_law 484 = .ok (.aload_n 0, 1) := by decide +kernel
theorem dL_law_485 : decode cL_law 485 = .ok (.iload_n 3, 1) := by decide +kernel
theorem dL_law_486 : decode cL_law 486 = .ok (.iconst 1, 1) := by decide +kernel
theorem dL_law_487 : decode cL_law 487 = .ok (.iadd, 1) := by decide +kernel
theorem dL_law_488 : decode cL_law 488 = .ok (.iaload, 1) := by decide +kernel
theorem dL_law_489 : decode cL_law 489 = .ok (.aload_n 0, 1) := by decide +kernel
theorem dL_law_490 : decode cL_law 490 = .ok (.iload_n 3, 1) := by decide +kernel
theorem dL_law_491 : decode cL_law 491 = .ok (.iconst 2, 1) := by decide +kernel
theorem dL_law_492 : decode cL_law 492 = .ok (.iadd, 1) := by decide +kernel
theorem dL_law_493 : decode cL_law 493 = .ok (.iaload, 1) := by decide +kernel
theorem dL_law_494 : decode cL_law 494 = .ok (.invokevirtual 69, 3) := by decide +kernel
theorem dL_law_497 : decode cL_law 497 = .ok (.aload_n 2, 1) := by decide +kernel
theorem dL_law_498 : decode cL_law 498 = .ok (.aload_n 0, 1) := by decide +kernel
theorem dL_law_499 : decode cL_law 499 = .ok (.iload_n 3, 1) := by decide +kernel
theorem dL_law_500 : decode cL_law 500 = .ok (.iconst 1, 1) := by decide +kernel
theorem dL_law_501 : decode cL_law 501 = .ok (.iadd, 1) := by decide +kernel
theorem dL_law_502 : decode cL_law 502 = .ok (.iaload, 1) := by decide +kernel
theorem dL_law_503 : decode cL_law 503 = .ok (.aload_n 0, 1) := by decide +kernel
theorem dL_law_504 : decode cL_law 504 = .ok (.iload_n 3, 1) := by decide +kernel
theorem dL_law_505 : decode cL_law 505 = .ok (.iconst 2, 1) := by decide +kernel
theorem dL_law_506 : decode cL_law 506 = .ok (.iadd, 1) := by decide +kernel
theorem dL_law_507 : decode cL_law 507 = .ok (.iaload, 1) := by decide +kernel
theorem dL_law_508 : decode cL_law 508 = .ok (.invokevirtual 72, 3) := by decide +kernel
theorem dL_law_511 : decode cL_law 511 = .ok (.if_icmp .eq 380, 3) := by decide +kernel
theorem dL_law_514 : decode cL_law 514 = .ok (.iconst 0, 1) := by decide +kernel
theorem dL_law_515 : decode cL_law 515 = .ok (.ireturn, 1) := by decide +kernel
theorem dL_law_516 : decode cL_law 516 = .ok (.aload_n 1, 1) := by decide +kernel
theorem dL_law_517 : decode cL_law 517 = .ok (.invokevirtual 73, 3) := by decide +kernel
theorem dL_law_520 : decode cL_law 520 = .ok (.aload_n 2, 1) := by decide +kernel
theorem dL_law_521 : decode cL_law 521 = .ok (.invokevirtual 76, 3) := by decide +kernel
theorem dL_law_524 : decode cL_law 524 = .ok (.if_icmp .eq 367, 3) := by decide +kernel
theorem dL_law_527 : decode cL_law 527 = .ok (.iconst 0, 1) := by decide +kernel
theorem dL_law_528 : decode cL_law 528 = .ok (.ireturn, 1) := by decide +kernel
theorem dL_law_529 : decode cL_law 529 = .ok (.aload_n 1, 1) := by decide +kernel
theorem dL_law_530 : decode cL_law 530 = .ok (.aload_n 0, 1) := by decide +kernel
theorem dL_law_531 : decode cL_law 531 = .ok (.iload_n 3, 1) := by decide +kernel
theorem dL_law_532 : decode cL_law 532 = .ok (.iconst 1, 1) := by decide +kernel
theorem dL_law_533 : decode cL_law 533 = .ok (.iadd, 1) := by decide +kernel
theorem dL_law_534 : decode cL_law 534 = .ok (.iaload, 1) := by decide +kernel
theorem dL_law_535 : decode cL_law 535 = .ok (.invokevirtual 77, 3) := by decide +kernel
theorem dL_law_538 : decode cL_law 538 = .ok (.aload_n 2, 1) := by decide +kernel
theorem dL_law_539 : decode cL_law 539 = .ok (.aload_n 0, 1) := by decide +kernel
theorem dL_law_540 : decode cL_law 540 = .ok (.iload_n 3, 1) := by decide +kernel
theorem dL_law_541 : decode cL_law 541 = .ok (.iconst 1, 1) := by decide +kernel
theorem dL_law_542 : decode cL_law 542 = .ok (.iadd, 1) := by decide +kernel
theorem dL_law_543 : decode cL_law 543 = .ok (.iaload, 1) := by decide +kernel
theorem dL_law_544 : decode cL_law 544 = .ok (.invokevirtual 80, 3) := by decide +kernel
theorem dL_law_547 : decode cL_law 547 = .ok (.if_icmp .eq 344, 3) := by decide +kernel
theorem dL_law_550 : decode cL_law 550 = .ok (.iconst 0, 1) := by decide +kernel
theorem dL_law_551 : decode cL_law 551 = .ok (.ireturn, 1) := by decide +kernel
theorem dL_law_552 : decode cL_law 552 = .ok (.aload_n 1, 1) := by decide +kernel
theorem dL_law_553 : decode cL_law 553 = .ok (.invokevirtual 81, 3) := by decide +kernel
theorem dL_law_556 : decode cL_law 556 = .ok (.aload_n 2, 1) := by decide +kernel
theorem dL_law_557 : decode cL_law 557 = .ok (.invokevirtual 84, 3) := by decide +kernel
theorem dL_law_560 : decode cL_law 560 = .ok (.if_icmp .eq 331, 3) := by decide +kernel
theorem dL_law_563 : decode cL_law 563 = .ok (.iconst 0, 1) := by decide +kernel
theorem dL_law_564 : decode cL_law 564 = .ok (.ireturn, 1) := by decide +kernel
theorem dL_law_565 : decode cL_law 565 = .ok (.aload_n 1, 1) := by decide +kernel
theorem dL_law_566 : decode cL_law 566 = .ok (.aload_n 0, 1) := by decide +kernel
theorem dL_law_567 : decode cL_law 567 = .ok (.iload_n 3, 1) := by decide +kernel
theorem dL_law_568 : decode cL_law 568 = .ok (.iconst 1, 1) := by decide +kernel
theorem dL_law_569 : decode cL_law 569 = .ok (.iadd, 1) := by decide +kernel
theorem dL_law_570 : decode cL_law 570 = .ok (.iaload, 1) := by decide +kernel
theorem dL_law_571 : decode cL_law 571 = .ok (.aload_n 0, 1) := by decide +kernel
theorem dL_law_572 : decode cL_law 572 = .ok (.iload_n 3, 1) := by decide +kernel
theorem dL_law_573 : decode cL_law 573 = .ok (.iconst 2, 1) := by decide +kernel
theorem dL_law_574 : decode cL_law 574 = .ok (.iadd, 1) := by decide +kernel
theorem dL_law_575 : decode cL_law 575 = .ok (.iaload, 1) := by decide +kernel
theorem dL_law_576 : decode cL_law 576 = .ok (.aload_n 0, 1) := by decide +kernel
theorem dL_law_577 : decode cL_law 577 = .ok (.iload_n 3, 1) := by decide +kernel
theorem dL_law_578 : decode cL_law 578 = .ok (.iconst 3, 1) := by decide +kernel
theorem dL_law_579 : decode cL_law 579 = .ok (.iadd, 1) := by decide +kernel
theorem dL_law_580 : decode cL_law 580 = .ok (.iaload, 1) := by decide +kernel
theorem dL_law_581 : decode cL_law 581 = .ok (.invokevirtual 85, 3) := by decide +kernel
theorem dL_law_584 : decode cL_law 584 = .ok (.aload_n 2, 1) := by decide +kernel
theorem dL_law_585 : decode cL_law 585 = .ok (.aload_n 0, 1) := by decide +kernel
theorem dL_law_586 : decode cL_law 586 = .ok (.iload_n 3, 1) := by decide +kernel
theorem dL_law_587 : decode cL_law 587 = .ok (.iconst 1, 1) := by decide +kernel
theorem dL_law_588 : decode cL_law 588 = .ok (.iadd, 1) := by decide +kernel
theorem dL_law_589 : decode cL_law 589 = .ok (.iaload, 1) := by decide +kernel
theorem dL_law_590 : decode cL_law 590 = .ok (.aload_n 0, 1) := by decide +kernel
theorem dL_law_591 : decode cL_law 591 = .ok (.iload_n 3, 1) := by decide +kernel
theorem dL_law_592 : decode cL_law 592 = .ok (.iconst 2, 1) := by decide +kernel
theorem dL_law_593 : decode cL_law 593 = .ok (.iadd, 1) := by decide +kernel
theorem dL_law_594 : decode cL_law 594 = .ok (.iaload, 1) := by decide +kernel
theorem dL_law_595 : decode cL_law 595 = .ok (.aload_n 0, 1) := by decide +kernel
theorem dL_law_596 : decode cL_law 596 = .ok (.iload_n 3, 1) := by decide +kernel
theorem dL_law_597 : decode cL_law 597 = .ok (.iconst 3, 1) := by decide +kernel
theorem dL_law_598 : decode cL_law 598 = .ok (.iadd, 1) := by decide +kernel
theorem dL_law_599 : decode cL_law 599 = .ok (.iaload, 1) := by decide +kernel
theorem dL_law_600 : decode cL_law 600 = .ok (.invokevirtual 88, 3) := by decide +kernel
theorem dL_law_603 : decode cL_law 603 = .ok (.if_icmp .eq 288, 3) := by decide +kernel
theorem dL_law_606 : decode cL_law 606 = .ok (.iconst 0, 1) := by decide +kernel
theorem dL_law_607 : decode cL_law 607 = .ok (.ireturn, 1) := by decide +kernel
theorem dL_law_608 : decode cL_law 608 = .ok (.aload_n 1, 1) := by decide +kernel
theorem dL_law_609 : decode cL_law 609 = .ok (.aload_n 0, 1) := by decide +kernel
theorem dL_law_610 : decode cL_law 610 = .ok (.iload_n 3, 1) := by decide +kernel
theorem dL_law_611 : decode cL_law 611 = .ok (.iconst 1, 1) := by decide +kernel
theorem dL_law_612 : decode cL_law 612 = .ok (.iadd, 1) := by decide +kernel
theorem dL_law_613 : decode cL_law 613 = .ok (.iaload, 1) := by decide +kernel
theorem dL_law_614 : decode cL_law 614 = .ok (.invokevirtual 89, 3) := by decide +kernel
theorem dL_law_617 : decode cL_law 617 = .ok (.aload_n 2, 1) := by decide +kernel
theorem dL_law_618 : decode cL_law 618 = .ok (.aload_n 0, 1) := by decide +kernel
theorem dL_law_619 : decode cL_law 619 = .ok (.iload_n 3, 1) := by decide +kernel
theorem dL_law_620 : decode cL_law 620 = .ok (.iconst 1, 1) := by decide +kernel
theorem dL_law_621 : decode cL_law 621 = .ok (.iadd, 1) := by decide +kernel
theorem dL_law_622 : decode cL_law 622 = .ok (.iaload, 1) := by decide +kernel
theorem dL_law_623 : decode cL_law 623 = .ok (.invokevirtual 92, 3) := by decide +kernel
theorem dL_law_626 : decode cL_law 626 = .ok (.if_icmp .eq 265, 3) := by decide +kernel
theorem dL_law_629 : decode cL_law 629 = .ok (.iconst 0, 1) := by decide +kernel
theorem dL_law_630 : decode cL_law 630 = .ok (.ireturn, 1) := by decide +kernel
theorem dL_law_631 : decode cL_law 631 = .ok (.aload_n 1, 1) := by decide +kernel
theorem dL_law_632 : decode cL_law 632 = .ok (.invokevirtual 93, 3) := by decide +kernel
theorem dL_law_635 : decode cL_law 635 = .ok (.aload_n 2, 1) := by decide +kernel
theorem dL_law_636 : decode cL_law 636 = .ok (.invokevirtual 96, 3) := by decide +kernel
theorem dL_law_639 : decode cL_law 639 = .ok (.if_icmp .eq 252, 3) := by decide +kernel
theorem dL_law_642 : decode cL_law 642 = .ok (.iconst 0, 1) := by decide +kernel
theorem dL_law_643 : decode cL_law 643 = .ok (.ireturn, 1) := by decide +kernel
theorem dL_law_644 : decode cL_law 644 = .ok (.aload_n 1, 1) := by decide +kernel
theorem dL_law_645 : decode cL_law 645 = .ok (.aload_n 0, 1) := by decide +kernel
theorem dL_law_646 : decode cL_law 646 = .ok (.iload_n 3, 1) := by decide +kernel
theorem dL_law_647 : decode cL_law 647 = .ok (.iconst 1, 1) := by decide +kernel
theorem dL_law_648 : decode cL_law 648 = .ok (.iadd, 1) := by decide +kernel
theorem dL_law_649 : decode cL_law 649 = .ok (.iaload, 1) := by decide +kernel
theorem dL_law_650 : decode cL_law 650 = .ok (.aload_n 0, 1) := by decide +kernel
theorem dL_law_651 : decode cL_law 651 = .ok (.iload_n 3, 1) := by decide +kernel
theorem dL_law_652 : decode cL_law 652 = .ok (.iconst 2, 1) := by decide +kernel
theorem dL_law_653 : decode cL_law 653 = .ok (.iadd, 1) := by decide +kernel
theorem dL_law_654 : decode cL_law 654 = .ok (.iaload, 1) := by decide +kernel
theorem dL_law_655 : decode cL_law 655 = .ok (.aload_n 0, 1) := by decide +kernel
theorem dL_law_656 : decode cL_law 656 = .ok (.iload_n 3, 1) := by decide +kernel
theorem dL_law_657 : decode cL_law 657 = .ok (.iconst 3, 1) := by decide +kernel
theorem dL_law_658 : decode cL_law 658 = .ok (.iadd, 1) := by decide +kernel
theorem dL_law_659 : decode cL_law 659 = .ok (.iaload, 1) := by decide +kernel
theorem dL_law_660 : decode cL_law 660 = .ok (.invokevirtual 97, 3) := by decide +kernel
theorem dL_law_663 : decode cL_law 663 = .ok (.aload_n 2, 1) := by decide +kernel
theorem dL_law_664 : decode cL_law 664 = .ok (.aload_n 0, 1) := by decide +kernel
theorem dL_law_665 : decode cL_law 665 = .ok (.iload_n 3, 1) := by decide +kernel
theorem dL_law_666 : decode cL_law 666 = .ok (.iconst 1, 1) := by decide +kernel
theorem dL_law_667 : decode cL_law 667 = .ok (.iadd, 1) := by decide +kernel
theorem dL_law_668 : decode cL_law 668 = .ok (.iaload, 1) := by decide +kernel
theorem dL_law_669 : decode cL_law 669 = .ok (.aload_n 0, 1) := by decide +kernel
theorem dL_law_670 : decode cL_law 670 = .ok (.iload_n 3, 1) := by decide +kernel
theorem dL_law_671 : decode cL_law 671 = .ok (.iconst 2, 1) := by decide +kernel
theorem dL_law_672 : decode cL_law 672 = .ok (.iadd, 1) := by decide +kernel
theorem dL_law_673 : decode cL_law 673 = .ok (.iaload, 1) := by decide +kernel
theorem dL_law_674 : decode cL_law 674 = .ok (.aload_n 0, 1) := by decide +kernel
theorem dL_law_675 : decode cL_law 675 = .ok (.iload_n 3, 1) := by decide +kernel
theorem dL_law_676 : decode cL_law 676 = .ok (.iconst 3, 1) := by decide +kernel
theorem dL_law_677 : decode cL_law 677 = .ok (.iadd, 1) := by decide +kernel
theorem dL_law_678 : decode cL_law 678 = .ok (.iaload, 1) := by decide +kernel
theorem dL_law_679 : decode cL_law 679 = .ok (.invokevirtual 100, 3) := by decide +kernel
theorem dL_law_682 : decode cL_law 682 = .ok (.if_icmp .eq 209, 3) := by decide +kernel
theorem dL_law_685 : decode cL_law 685 = .ok (.iconst 0, 1) := by decide +kernel
theorem dL_law_686 : decode cL_law 686 = .ok (.ireturn, 1) := by decide +kernel
theorem dL_law_687 : decode cL_law 687 = .ok (.aload_n 1, 1) := by decide +kernel
theorem dL_law_688 : decode cL_law 688 = .ok (.invokevirtual 101, 3) := by decide +kernel
theorem dL_law_691 : decode cL_law 691 = .ok (.aload_n 2, 1) := by decide +kernel
theorem dL_law_692 : decode cL_law 692 = .ok (.invokevirtual 104, 3) := by decide +kernel
theorem dL_law_695 : decode cL_law 695 = .ok (.if_icmp .eq 196, 3) := by decide +kernel
theorem dL_law_698 : decode cL_law 698 = .ok (.iconst 0, 1) := by decide +kernel
theorem dL_law_699 : decode cL_law 699 = .ok (.ireturn, 1) := by decide +kernel
theorem dL_law_700 : decode cL_law 700 = .ok (.aload_n 1, 1) := by decide +kernel
theorem dL_law_701 : decode cL_law 701 = .ok (.aload_n 0, 1) := by decide +kernel
theorem dL_law_702 : decode cL_law 702 = .ok (.iload_n 3, 1) := by decide +kernel
theorem dL_law_703 : decode cL_law 703 = .ok (.iconst 1, 1) := by decide +kernel
theorem dL_law_704 : decode cL_law 704 = .ok (.iadd, 1) := by decide +kernel
theorem dL_law_705 : decode cL_law 705 = .ok (.iaload, 1) := by decide +kernel
theorem dL_law_706 : decode cL_law 706 = .ok (.aload_n 0, 1) := by decide +kernel
theorem dL_law_707 : decode cL_law 707 = .ok (.iload_n 3, 1) := by decide +kernel
theorem dL_law_708 : decode cL_law 708 = .ok (.iconst 2, 1) := by decide +kernel
theorem dL_law_709 : decode cL_law 709 = .ok (.iadd, 1) := by decide +kernel
theorem dL_law_710 : decode cL_law 710 = .ok (.iaload, 1) := by decide +kernel
theorem dL_law_711 : decode cL_law 711 = .ok (.invokevirtual 105, 3) := by decide +kernel
theorem dL_law_714 : decode cL_law 714 = .ok (.aload_n 2, 1) := by decide +kernel
theorem dL_law_715 : decode cL_law 715 = .ok (.aload_n 0, 1) := by decide +kernel
theorem dL_law_716 : decode cL_law 716 = .ok (.iload_n 3, 1) := by decide +kernel
theorem dL_law_717 : decode cL_law 717 = .ok (.iconst 1, 1) := by decide +kernel
theorem dL_law_718 : decode cL_law 718 = .ok (.iadd, 1) := by decide +kernel
theorem dL_law_719 : decode cL_law 719 = .ok (.iaload, 1) := by decide +kernel
theorem dL_law_720 : decode cL_law 720 = .ok (.aload_n 0, 1) := by decide +kernel
theorem dL_law_721 : decode cL_law 721 = .ok (.iload_n 3, 1) := by decide +kernel
theorem dL_law_722 : decode cL_law 722 = .ok (.iconst 2, 1) := by decide +kernel
theorem dL_law_723 : decode cL_law 723 = .ok (.iadd, 1) := by decide +kernel
theorem dL_law_724 : decode cL_law 724 = .ok (.iaload, 1) := by decide +kernel
theorem dL_law_725 : decode cL_law 725 = .ok (.invokevirtual 108, 3) := by decide +kernel
theorem dL_law_728 : decode cL_law 728 = .ok (.if_icmp .eq 163, 3) := by decide +kernel
theorem dL_law_731 : decode cL_law 731 = .ok (.iconst 0, 1) := by decide +kernel
theorem dL_law_732 : decode cL_law 732 = .ok (.ireturn, 1) := by decide +kernel
theorem dL_law_733 : decode cL_law 733 = .ok (.aload_n 1, 1) := by decide +kernel
theorem dL_law_734 : decode cL_law 734 = .ok (.aload_n 0, 1) := by decide +kernel
theorem dL_law_735 : decode cL_law 735 = .ok (.iload_n 3, 1) := by decide +kernel
theorem dL_law_736 : decode cL_law 736 = .ok (.iconst 1, 1) := by decide +kernel
theorem dL_law_737 : decode cL_law 737 = .ok (.iadd, 1) := by decide +kernel
theorem dL_law_738 : decode cL_law 738 = .ok (.iaload, 1) := by decide +kernel
theorem dL_law_739 : decode cL_law 739 = .ok (.invokevirtual 109, 3) := by decide +kernel
theorem dL_law_742 : decode cL_law 742 = .ok (.aload_n 2, 1) := by decide +kernel
theorem dL_law_743 : decode cL_law 743 = .ok (.aload_n 0, 1) := by decide +kernel
theorem dL_law_744 : decode cL_law 744 = .ok (.iload_n 3, 1) := by decide +kernel
theorem dL_law_745 : decode cL_law 745 = .ok (.iconst 1, 1) := by decide +kernel
theorem dL_law_746 : decode cL_law 746 = .ok (.iadd, 1) := by decide +kernel
theorem dL_law_747 : decode cL_law 747 = .ok (.iaload, 1) := by decide +kernel
theorem dL_law_748 : decode cL_law 748 = .ok (.invokevirtual 112, 3) := by decide +kernel
theorem dL_law_751 : decode cL_law 751 = .ok (.if_icmp .eq 140, 3) := by decide +kernel
theorem dL_law_754 : decode cL_law 754 = .ok (.iconst 0, 1) := by decide +kernel
theorem dL_law_755 : decode cL_law 755 = .ok (.ireturn, 1) := by decide +kernel
theorem dL_law_756 : decode cL_law 756 = .ok (.aload_n 1, 1) := by decide +kernel
theorem dL_law_757 : decode cL_law 757 = .ok (.aload_n 0, 1) := by decide +kernel
theorem dL_law_758 : decode cL_law 758 = .ok (.iload_n 3, 1) := by decide +kernel
theorem dL_law_759 : decode cL_law 759 = .ok (.iconst 1, 1) := by decide +kernel
theorem dL_law_760 : decode cL_law 760 = .ok (.iadd, 1) := by decide +kernel
theorem dL_law_761 : decode cL_law 761 = .ok (.iaload, 1) := by decide +kernel
theorem dL_law_762 : decode cL_law 762 = .ok (.aload_n 0, 1) := by decide +kernel
theorem dL_law_763 : decode cL_law 763 = .ok (.iload_n 3, 1) := by decide +kernel
theorem dL_law_764 : decode cL_law 764 = .ok (.iconst 2, 1) := by decide +kernel
theorem dL_law_765 : decode cL_law 765 = .ok (.iadd, 1) := by decide +kernel
theorem dL_law_766 : decode cL_law 766 = .ok (.iaload, 1) := by decide +kernel
theorem dL_law_767 : decode cL_law 767 = .ok (.aload_n 0, 1) := by decide +kernel
theorem dL_law_768 : decode cL_law 768 = .ok (.iload_n 3, 1) := by decide +kernel
theorem dL_law_769 : decode cL_law 769 = .ok (.iconst 3, 1) := by decide +kernel
theorem dL_law_770 : decode cL_law 770 = .ok (.iadd, 1) := by decide +kernel
theorem dL_law_771 : decode cL_law 771 = .ok (.iaload, 1) := by decide +kernel
theorem dL_law_772 : decode cL_law 772 = .ok (.invokevirtual 113, 3) := by decide +kernel
theorem dL_law_775 : decode cL_law 775 = .ok (.aload_n 2, 1) := by decide +kernel
theorem dL_law_776 : decode cL_law 776 = .ok (.aload_n 0, 1) := by decide +kernel
theorem dL_law_777 : decode cL_law 777 = .ok (.iload_n 3, 1) := by decide +kernel
theorem dL_law_778 : decode cL_law 778 = .ok (.iconst 1, 1) := by decide +kernel
theorem dL_law_779 : decode cL_law 779 = .ok (.iadd, 1) := by decide +kernel
theorem dL_law_780 : decode cL_law 780 = .ok (.iaload, 1) := by decide +kernel
theorem dL_law_781 : decode cL_law 781 = .ok (.aload_n 0, 1) := by decide +kernel
theorem dL_law_782 : decode cL_law 782 = .ok (.iload_n 3, 1) := by decide +kernel
theorem dL_law_783 : decode cL_law 783 = .ok (.iconst 2, 1) := by decide +kernel
theorem dL_law_784 : decode cL_law 784 = .ok (.iadd, 1) := by decide +kernel
theorem dL_law_785 : decode cL_law 785 = .ok (.iaload, 1) := by decide +kernel
theorem dL_law_786 : decode cL_law 786 = .ok (.aload_n 0, 1) := by decide +kernel
theorem dL_law_787 : decode cL_law 787 = .ok (.iload_n 3, 1) := by decide +kernel
theorem dL_law_788 : decode cL_law 788 = .ok (.iconst 3, 1) := by decide +kernel
theorem dL_law_789 : decode cL_law 789 = .ok (.iadd, 1) := by decide +kernel
theorem dL_law_790 : decode cL_law 790 = .ok (.iaload, 1) := by decide +kernel
theorem dL_law_791 : decode cL_law 791 = .ok (.invokevirtual 116, 3) := by decide +kernel
theorem dL_law_794 : decode cL_law 794 = .ok (.if_icmp .eq 97, 3) := by decide +kernel
theorem dL_law_797 : decode cL_law 797 = .ok (.iconst 0, 1) := by decide +kernel
theorem dL_law_798 : decode cL_law 798 = .ok (.ireturn, 1) := by decide +kernel
theorem dL_law_799 : decode cL_law 799 = .ok (.aload_n 1, 1) := by decide +kernel
theorem dL_law_800 : decode cL_law 800 = .ok (.aload_n 0, 1) := by decide +kernel
theorem dL_law_801 : decode cL_law 801 = .ok (.iload_n 3, 1) := by decide +kernel
theorem dL_law_802 : decode cL_law 802 = .ok (.iconst 1, 1) := by decide +kernel
theorem dL_law_803 : decode cL_law 803 = .ok (.iadd, 1) := by decide +kernel
theorem dL_law_804 : decode cL_law 804 = .ok (.iaload, 1) := by decide +kernel
theorem dL_law_805 : decode cL_law 805 = .ok (.aload_n 0, 1) := by decide +kernel
theorem dL_law_806 : decode cL_law 806 = .ok (.iload_n 3, 1) := by decide +kernel
theorem dL_law_807 : decode cL_law 807 = .ok (.iconst 2, 1) := by decide +kernel
theorem dL_law_808 : decode cL_law 808 = .ok (.iadd, 1) := by decide +kernel
theorem dL_law_809 : decode cL_law 809 = .ok (.iaload, 1) := by decide +kernel
theorem dL_law_810 : decode cL_law 810 = .ok (.aload_n 0, 1) := by decide +kernel
theorem dL_law_811 : decode cL_law 811 = .ok (.iload_n 3, 1) := by decide +kernel
theorem dL_law_812 : decode cL_law 812 = .ok (.iconst 3, 1) := by decide +kernel
theorem dL_law_813 : decode cL_law 813 = .ok (.iadd, 1) := by decide +kernel
theorem dL_law_814 : decode cL_law 814 = .ok (.iaload, 1) := by decide +kernel
theorem dL_law_815 : decode cL_law 815 = .ok (.invokevirtual 117, 3) := by decide +kernel
theorem dL_law_818 : decode cL_law 818 = .ok (.aload_n 2, 1) := by decide +kernel
theorem dL_law_819 : decode cL_law 819 = .ok (.aload_n 0, 1) := by decide +kernel
theorem dL_law_820 : decode cL_law 820 = .ok (.iload_n 3, 1) := by decide +kernel
theorem dL_law_821 : decode cL_law 821 = .ok (.iconst 1, 1) := by decide +kernel
theorem dL_law_822 : decode cL_law 822 = .ok (.iadd, 1) := by decide +kernel
theorem dL_law_823 : decode cL_law 823 = .ok (.iaload, 1) := by decide +kernel
theorem dL_law_824 : decode cL_law 824 = .ok (.aload_n 0, 1) := by decide +kernel
theorem dL_law_825 : decode cL_law 825 = .ok (.iload_n 3, 1) := by decide +kernel
theorem dL_law_826 : decode cL_law 826 = .ok (.iconst 2, 1) := by decide +kernel
theorem dL_law_827 : decode cL_law 827 = .ok (.iadd, 1) := by decide +kernel
theorem dL_law_828 : decode cL_law 828 = .ok (.iaload, 1) := by decide +kernel
theorem dL_law_829 : decode cL_law 829 = .ok (.aload_n 0, 1) := by decide +kernel
theorem dL_law_830 : decode cL_law 830 = .ok (.iload_n 3, 1) := by decide +kernel
theorem dL_law_831 : decode cL_law 831 = .ok (.iconst 3, 1) := by decide +kernel
theorem dL_law_832 : decode cL_law 832 = .ok (.iadd, 1) := by decide +kernel
theorem dL_law_833 : decode cL_law 833 = .ok (.iaload, 1) := by decide +kernel
theorem dL_law_834 : decode cL_law 834 = .ok (.invokevirtual 120, 3) := by decide +kernel
theorem dL_law_837 : decode cL_law 837 = .ok (.if_icmp .eq 54, 3) := by decide +kernel
theorem dL_law_840 : decode cL_law 840 = .ok (.iconst 0, 1) := by decide +kernel
theorem dL_law_841 : decode cL_law 841 = .ok (.ireturn, 1) := by decide +kernel
theorem dL_law_842 : decode cL_law 842 = .ok (.aload_n 1, 1) := by decide +kernel
theorem dL_law_843 : decode cL_law 843 = .ok (.invokevirtual 121, 3) := by decide +kernel
theorem dL_law_846 : decode cL_law 846 = .ok (.aload_n 2, 1) := by decide +kernel
theorem dL_law_847 : decode cL_law 847 = .ok (.invokevirtual 124, 3) := by decide +kernel
theorem dL_law_850 : decode cL_law 850 = .ok (.if_icmp .eq 41, 3) := by decide +kernel
theorem dL_law_853 : decode cL_law 853 = .ok (.iconst 0, 1) := by decide +kernel
theorem dL_law_854 : decode cL_law 854 = .ok (.ireturn, 1) := by decide +kernel
theorem dL_law_855 : decode cL_law 855 = .ok (.aload_n 1, 1) := by decide +kernel
theorem dL_law_856 : decode cL_law 856 = .ok (.invokevirtual 125, 3) := by decide +kernel
theorem dL_law_859 : decode cL_law 859 = .ok (.aload_n 2, 1) := by decide +kernel
theorem dL_law_860 : decode cL_law 860 = .ok (.invokevirtual 128, 3) := by decide +kernel
theorem dL_law_863 : decode cL_law 863 = .ok (.if_icmp .eq 28, 3) := by decide +kernel
theorem dL_law_866 : decode cL_law 866 = .ok (.iconst 0, 1) := by decide +kernel
theorem dL_law_867 : decode cL_law 867 = .ok (.ireturn, 1) := by decide +kernel
theorem dL_law_868 : decode cL_law 868 = .ok (.aload_n 1, 1) := by decide +kernel
theorem dL_law_869 : decode cL_law 869 = .ok (.aload_n 0, 1) := by decide +kernel
theorem dL_law_870 : decode cL_law 870 = .ok (.iload_n 3, 1) := by decide +kernel
theorem dL_law_871 : decode cL_law 871 = .ok (.iconst 1, 1) := by decide +kernel
theorem dL_law_872 : decode cL_law 872 = .ok (.iadd, 1) := by decide +kernel
theorem dL_law_873 : decode cL_law 873 = .ok (.iaload, 1) := by decide +kernel
theorem dL_law_874 : decode cL_law 874 = .ok (.invokevirtual 129, 3) := by decide +kernel
theorem dL_law_877 : decode cL_law 877 = .ok (.aload_n 2, 1) := by decide +kernel
theorem dL_law_878 : decode cL_law 878 = .ok (.aload_n 0, 1) := by decide +kernel
theorem dL_law_879 : decode cL_law 879 = .ok (.iload_n 3, 1) := by decide +kernel
theorem dL_law_880 : decode cL_law 880 = .ok (.iconst 1, 1) := by decide +kernel
theorem dL_law_881 : decode cL_law 881 = .ok (.iadd, 1) := by decide +kernel
theorem dL_law_882 : decode cL_law 882 = .ok (.iaload, 1) := by decide +kernel
theorem dL_law_883 : decode cL_law 883 = .ok (.invokevirtual 132, 3) := by decide +kernel
theorem dL_law_886 : decode cL_law 886 = .ok (.if_icmp .eq 5, 3) := by decide +kernel
theorem dL_law_889 : decode cL_law 889 = .ok (.iconst 0, 1) := by decide +kernel
theorem dL_law_890 : decode cL_law 890 = .ok (.ireturn, 1) := by decide +kernel
theorem dL_law_891 : decode cL_law 891 = .ok (.iinc 3 4, 3) := by decide +kernel
theorem dL_law_894 : decode cL_law 894 = .ok (.goto (-876), 3) := by decide +kernel
theorem dL_law_897 : decode cL_law 897 = .ok (.iconst 1, 1) := by decide +kernel
theorem dL_law_898 : decode cL_law 898 = .ok (.ireturn, 1) := by decide +kernel
end
section
/-! The world: 128 cells at unknown places; what is whole numbers in them is sm_St; the rest (classes, lengths, references) never changes once all is made. A method's contract is an equation: its answer and the numbers behind it. -/
abbrev sm_St : Type := Nat → Nat → Int32
def gw : List Cond := lw_tbl.filter goodWord
theorem gw_good : GoodIn gw gw := fun w h => ⟨h, good_of_word (List.mem_filter.mp h).2⟩
theorem gw_mem {w : Cond} (i : Nat) (h : lw_tbl[i]? = some w) (hg : goodWord w = true) : w ∈ gw := List.mem_filter.mpr ⟨List.mem_of_getElem? h, hg⟩
abbrev vc6 : List vw_C := [(RX0, TX0, 17), (RX1, TX1, 3), (RX3, TX3, 4), (RX4, TX4, 4), (RX5, TX5, 8), (RX6, TX6, 35)]
def sm_c (ci : Nat) : vw_C := match ci with
  | 0 => (RX0, TX0, 17)
  | 1 => (RX1, TX1, 3)
  | 2 => (RX3, TX3, 4)
  | 3 => (RX4, TX4, 4)
  | 4 => (RX5, TX5, 8)
  | _ => (RX6, TX6, 35)
theorem sm_c_at : ∀ ci, ci < 6 → vc6[ci]? = some (sm_c ci)
  | 0, _ => rfl
  | 1, _ => rfl
  | 2, _ => rfl
  | 3, _ => rfl
  | 4, _ => rfl
  | 5, _ => rfl
  | n + 6, h => by omega
def sm_ocl (k : Nat) : Option Nat := if k < 96 then (if k % 8 = 0 then some 0 else none) else
  if k = 96 then some 4 else if k = 97 then some 3 else if k = 100 then some 2 else if k = 104 then some 1 else if k = 106 then some 1 else if k = 110 then some 5 else none
def sm_aln (k : Nat) : Option Nat := if k < 96 then (if k % 8 = 0 then none else if k % 8 < 5 then some 6 else some 8) else
  if k = 98 then some 200 else if k = 99 then some 3 else if k = 101 then some 6 else if k = 102 then some 6 else if k = 103 then some 6 else if k = 108 then some 81 else if k = 109 then some 81 else
  if k = 111 then some 8 else if k = 112 then some 8 else if k = 113 then some 8 else if k = 114 then some 6 else if k = 115 then some 6 else if k = 116 then some 6 else if k = 117 then some 6 else
  if k = 118 then some 6 else if k = 119 then some 6 else if k = 120 then some 6 else if k = 121 then some 200 else if k = 122 then some 5 else if k = 123 then some 15 else if k = 124 then some 21 else
  if k = 125 then some 232 else if k = 126 then some 29 else if k = 127 then some 58 else none
/-- rows of Fields: how many, the first one's cell -/
def sm_rln (k : Nat) : Option (Nat × Nat) := if k = 105 then some (8, 16) else if k = 107 then some (2, 80) else none
/-- the references that the objects hold -/
def sm_rf (ci k i : Nat) : Option Nat := match ci with
  | 0 => if 10 ≤ i then some (k + (i - 9)) else none
  | 1 => if i = 0 then some (k + 1) else none
  | 2 => if i < 3 then some (k + 1 + i) else none
  | 3 => if i < 2 then some (k + 1 + i) else none
  | 4 => match i with
    | 0 => some 97
    | 1 => some 0
    | 2 => some 8
    | 3 => some 100
    | 4 => some 104
    | 5 => some 106
    | 6 => some 108
    | _ => some 109
  | _ => match i with
    | 3 => some 111
    | 4 => some 112
    | 5 => some 113
    | 11 => some 114
    | 12 => some 115
    | 13 => some 116
    | 14 => some 117
    | 16 => some 118
    | 17 => some 119
    | 18 => some 120
    | 19 => some 121
    | 24 => some 122
    | 25 => some 123
    | 26 => some 124
    | 30 => some 125
    | 32 => some 126
    | 33 => some 127
    | _ => none
def sm_fv (ρ : Nat → Nat) (σ : sm_St) (ci k i : Nat) : Value := match sm_rf ci k i with
  | some r => .ref (ρ r)
  | none => .int (σ k i)
def sm_cel (ρ : Nat → Nat) (cI cF : ClassId) (σ : sm_St) (k : Nat) : va_E := match sm_ocl k with
  | some ci => .inr (ci, (List.range (sm_c ci).2.2).map (sm_fv ρ σ ci k))
  | none => match sm_rln k with
    | some nb => .inl (cF, nb.1, .inr (.inr (.inr (.inr (fun i => some (ρ (nb.2 + 8 * i)))))))
    | none => .inl (cI, (sm_aln k).getD 0, .inl (σ k))
def sm_ws (ρ : Nat → Nat) (cI cF : ClassId) (σ : sm_St) : va_W := (List.range 128).map (fun k => (ρ k, sm_cel ρ cI cF σ k))
theorem sm_ws_at {ρ : Nat → Nat} {cI cF : ClassId} {σ : sm_St} {k : Nat} (hk : k < 128) : (sm_ws ρ cI cF σ)[k]? = some (ρ k, sm_cel ρ cI cF σ k) := by
  unfold sm_ws
  rw [List.getElem?_map, List.getElem?_range hk]
  rfl
theorem sm_ws_of {ρ : Nat → Nat} {cI cF : ClassId} {σ : sm_St} {k : Nat} {q : Nat × va_E} (h : (sm_ws ρ cI cF σ)[k]? = some q) : k < 128 ∧ q = (ρ k, sm_cel ρ cI cF σ k) := by
  have hk : k < 128 := by
    have := (List.getElem?_eq_some_iff.mp h).1
    simpa [sm_ws] using this
  exact ⟨hk, (Option.some.inj ((sm_ws_at hk).symm.trans h)).symm⟩
/-- which cells are apart doesn't hang on what they hold -/
theorem sm_D {A : Nat → Prop} {ρ : Nat → Nat} {cI cF : ClassId} {σ σ' : sm_St} (h : va_D A (sm_ws ρ cI cF σ)) : va_D A (sm_ws ρ cI cF σ') := by
  refine ⟨fun i j p q hi hj e => ?_, fun k q hk => ?_⟩
  · obtain ⟨h1, rfl⟩ := sm_ws_of hi
    obtain ⟨h2, rfl⟩ := sm_ws_of hj
    exact h.1 i j _ _ (sm_ws_at h1) (sm_ws_at h2) e
  · obtain ⟨h1, rfl⟩ := sm_ws_of hk
    exact h.2 k (ρ k, sm_cel ρ cI cF σ k) (sm_ws_at h1)
theorem sm_A {ρ : Nat → Nat} {cI cF : ClassId} {σ σ' : sm_St} {sz q : Nat} (h : va_A (sm_ws ρ cI cF σ) sz q) : va_A (sm_ws ρ cI cF σ') sz q := by
  rcases h with ⟨k, e, h⟩ | h
  · obtain ⟨h1, h2⟩ := sm_ws_of h
    cases h2
    exact Or.inl ⟨k, _, sm_ws_at h1⟩
  · exact Or.inr h
theorem sm_ocl_lt {k ci : Nat} (h : sm_ocl k = some ci) : k < 128 ∧ ci < 6 := by
  unfold sm_ocl at h
  repeat' split at h
  all_goals first | (cases h; omega) | cases h
theorem sm_aln_ok : ∀ k, k < 128 → (sm_aln k = none ∨ (sm_ocl k = none ∧ sm_rln k = none ∧ (sm_aln k).getD 0 < 1000)) := by decide +kernel
theorem sm_aln_lt {k n : Nat} (h : sm_aln k = some n) : k < 128 ∧ sm_ocl k = none ∧ sm_rln k = none ∧ n < 1000 := by
  have hk : k < 128 := by
    refine Nat.not_le.mp fun hk => ?_
    unfold sm_aln at h
    repeat rw [if_neg (by omega)] at h
    cases h
  rcases sm_aln_ok k hk with h1 | ⟨h1, h2, h3⟩
  · rw [h1] at h; cases h
  · rw [h] at h3
    exact ⟨hk, h1, h2, h3⟩
theorem sm_cel_o {ρ : Nat → Nat} {cI cF : ClassId} {σ : sm_St} {k ci : Nat} (h : sm_ocl k = some ci) : sm_cel ρ cI cF σ k = .inr (ci, (List.range (sm_c ci).2.2).map (sm_fv ρ σ ci k)) := by
  unfold sm_cel
  rw [h]
theorem sm_cel_a {ρ : Nat → Nat} {cI cF : ClassId} {σ : sm_St} {k n : Nat} (h : sm_aln k = some n) : sm_cel ρ cI cF σ k = .inl (cI, n, .inl (σ k)) := by
  obtain ⟨-, h1, h2, -⟩ := sm_aln_lt h
  unfold sm_cel
  rw [h1, h2, h]
  rfl
/-- the number k, i is v now -/
def sm_set (σ : sm_St) (k i : Nat) (v : Int32) : sm_St := fun j => if j = k then upd (σ k) i v else σ j
theorem sm_ws_put {ρ : Nat → Nat} {cI cF : ClassId} {σ : sm_St} {k i ci : Nat} {v : Int32} (h : sm_ocl k = some ci) (hr : sm_rf ci k i = none) (hi : i < (sm_c ci).2.2) :
    (sm_ws ρ cI cF σ).set k (ρ k, .inr (ci, ((List.range (sm_c ci).2.2).map (sm_fv ρ σ ci k)).set i (.int v))) = sm_ws ρ cI cF (sm_set σ k i v) := by
  have hk := (sm_ocl_lt h).1
  apply List.ext_getElem?
  intro j
  by_cases hj : j = k
  · subst hj
    rw [List.getElem?_set_self (by simp [sm_ws]; omega), sm_ws_at hk, sm_cel_o h]
    congr 4
    apply List.ext_getElem?
    intro a
    by_cases ha : a = i
    · subst ha
      rw [List.getElem?_set_self (by simp; omega), List.getElem?_map, List.getElem?_range hi]
      show some (Value.int v) = some (sm_fv ρ (sm_set σ j a v) ci j a)
      unfold sm_fv
      rw [hr]
      simp [sm_set, upd]
    · rw [List.getElem?_set_ne (Ne.symm ha), List.getElem?_map, List.getElem?_map]
      by_cases hb : a < (sm_c ci).2.2
      · rw [List.getElem?_range hb]
        show some (sm_fv ρ σ ci j a) = some (sm_fv ρ (sm_set σ j i v) ci j a)
        unfold sm_fv
        cases sm_rf ci j a with
        | some r => rfl
        | none => simp [sm_set, upd, ha]
      · rw [List.getElem?_eq_none (by simp; omega)]
        rfl
  · rw [List.getElem?_set_ne (Ne.symm hj)]
    by_cases hb : j < 128
    · rw [sm_ws_at hb, sm_ws_at hb]
      have e : sm_set σ k i v j = σ j := by simp [sm_set, hj]
      unfold sm_cel sm_fv
      rw [e]
    · rw [List.getElem?_eq_none (by simp [sm_ws]; omega), List.getElem?_eq_none (by simp [sm_ws]; omega)]
/-- a whole row is f now -/
def sm_row (σ : sm_St) (k : Nat) (f : Nat → Int32) : sm_St := fun j => if j = k then f else σ j
theorem sm_ws_row {ρ : Nat → Nat} {cI cF : ClassId} {σ : sm_St} {k n : Nat} {f : Nat → Int32} (h : sm_aln k = some n) :
    (sm_ws ρ cI cF σ).set k (ρ k, .inl (cI, n, .inl f)) = sm_ws ρ cI cF (sm_row σ k f) := by
  have hk := (sm_aln_lt h).1
  apply List.ext_getElem?
  intro j
  by_cases hj : j = k
  · subst hj
    rw [List.getElem?_set_self (by simp [sm_ws]; omega), sm_ws_at hk, sm_cel_a h]
    simp [sm_row]
  · rw [List.getElem?_set_ne (Ne.symm hj)]
    by_cases hb : j < 128
    · rw [sm_ws_at hb, sm_ws_at hb]
      have e : sm_row σ k f j = σ j := by simp [sm_row, hj]
      unfold sm_cel sm_fv
      rw [e]
    · rw [List.getElem?_eq_none (by simp [sm_ws]; omega), List.getElem?_eq_none (by simp [sm_ws]; omega)]
theorem sm_set_row (σ : sm_St) (k i : Nat) (v : Int32) : sm_row σ k (upd (σ k) i v) = sm_set σ k i v := rfl
/-- values as places in the world: a reference names its cell; 200, 201 are the two static tables -/
def sm_cv (ρ : Nat → Nat) (v : Value) : Value := match v with
  | .ref k => .ref (ρ k)
  | w => w
theorem sm_cv_cat (ρ : Nat → Nat) (v : Value) : (sm_cv ρ v).category = v.category := by
  cases v <;> rfl
def sm_cl (ρ : Nat → Nat) (lv : List (Nat × Value)) : List (Nat × Value) := lv.map (fun q => (q.1, sm_cv ρ q.2))
def sm_lk (lv : List (Nat × Value)) (i : Nat) : Option Value := match lv with
  | [] => none
  | q :: r => if q.1 = i then some q.2 else sm_lk r i
theorem sm_lk_at {ρ : Nat → Nat} {ls : Array Slot} {nL i : Nat} {lv : List (Nat × Value)} {v : Value} (h : lv_has ls nL (sm_cl ρ lv)) (hk : sm_lk lv i = some v) : ls[i]? = some (.val (sm_cv ρ v)) := by
  have key : ∀ lv : List (Nat × Value), sm_lk lv i = some v → (i, v) ∈ lv := by
    intro lv
    induction lv with
    | nil => intro h; cases h
    | cons q r ih =>
      intro h
      unfold sm_lk at h
      by_cases hq : q.1 = i
      · rw [if_pos hq] at h
        cases h
        cases hq
        exact List.mem_cons_self
      · rw [if_neg hq] at h
        exact List.mem_cons_of_mem _ (ih h)
  exact h.2.2 (i, sm_cv ρ v) (List.mem_map.mpr ⟨(i, v), key lv hk, rfl⟩)
def sm_s1 (i : Nat) (v : Value) (lv : List (Nat × Value)) : List (Nat × Value) := (i, v) :: lv.filter (fun q => !(q.1 == i) && !(q.1 + 1 == i && q.2.category == 2))
def sm_s2 (i : Nat) (v : Value) (lv : List (Nat × Value)) : List (Nat × Value) := (i, v) :: lv.filter (fun q => !(q.1 == i) && (!(q.1 == i + 1) && !(q.1 + 1 == i && q.2.category == 2)))
theorem sm_cl_s1 (ρ : Nat → Nat) (i : Nat) (v : Value) (lv : List (Nat × Value)) : (i, sm_cv ρ v) :: (sm_cl ρ lv).filter (fun q => !(q.1 == i) && !(q.1 + 1 == i && q.2.category == 2)) = sm_cl ρ (sm_s1 i v lv) := by
  unfold sm_cl sm_s1
  rw [List.filter_map, List.map_cons]
  congr 2
  apply List.filter_congr
  intro q _
  simp only [Function.comp, sm_cv_cat]
theorem sm_cl_s2 (ρ : Nat → Nat) (i : Nat) (v : Value) (lv : List (Nat × Value)) : (i, sm_cv ρ v) :: (sm_cl ρ lv).filter (fun q => !(q.1 == i) && (!(q.1 == i + 1) && !(q.1 + 1 == i && q.2.category == 2))) = sm_cl ρ (sm_s2 i v lv) := by
  unfold sm_cl sm_s2
  rw [List.filter_map, List.map_cons]
  congr 2
  apply List.filter_congr
  intro q _
  simp only [Function.comp, sm_cv_cat]
def sm_sx (j : Nat) : Int32 := match j with
  | 2 => 1
  | 4 => -1
  | _ => 0
def sm_sy (j : Nat) : Int32 := match j with
  | 1 => -1
  | 3 => 1
  | _ => 0
/-- what else a method needs of a state: the two tables, and three links to nest mates -/
def sm_G (ρ : Nat → Nat) (A : Nat → Prop) (U : State) (H : Heap) : Prop :=
  (va_Z RX0 "STEP_X" "[I" (.ref (ρ 200)) A U H ∧ va_T .int (ρ 200) 5 (fun j => .int (sm_sx j)) A U H) ∧ (va_Z RX0 "STEP_Y" "[I" (.ref (ρ 201)) A U H ∧ va_T .int (ρ 201) 5 (fun j => .int (sm_sy j)) A U H) ∧
  va_Nw (.methodLinkNest RX0 121 yX5_isCell RX5) U ∧ va_Nw (.methodLinkNest RX4 65 yX5_within RX5) U ∧ va_Nw (.methodLinkNest RX4 75 yX5_isCell RX5) U
theorem sm_G.warm {ρ : Nat → Nat} {A A1 : Nat → Prop} {s U : State} {H : Heap} {locs : List Loc} (h : sm_G ρ A s s.heap) (hW : s.WarmedH U.vm) (hS : va_S A s.heap H locs) (hA : ∀ q, A1 q → A q) : sm_G ρ A1 U H := by
  obtain ⟨⟨a1, a2⟩, ⟨a3, a4⟩, a5, a6, a7⟩ := h
  have hk : ∀ a : Nat, a < s.heap.size → ¬ A a → H[a]? = s.heap[a]? := hS.2.1
  exact ⟨⟨((va_Z.kept a1 hk).narrow hA).moved hW.alike, ((va_T.kept a2 hk).narrow hA).moved hW.alike⟩, ⟨((va_Z.kept a3 hk).narrow hA).moved hW.alike, ((va_T.kept a4 hk).narrow hA).moved hW.alike⟩, va_Nw.warmM hW a5, va_Nw.warmM hW a6, va_Nw.warmM hW a7⟩
theorem sm_G.same {ρ : Nat → Nat} {A : Nat → Prop} {u U : State} {H : Heap} (h : sm_G ρ A u H) (hvm : u.vm = U.vm) : sm_G ρ A U H := by
  obtain ⟨⟨a1, a2⟩, ⟨a3, a4⟩, a5, a6, a7⟩ := h
  have ha : u.vm.Alike U.vm := hvm ▸ Vm.Alike.refl u.vm
  exact ⟨⟨a1.moved ha, a2.moved ha⟩, ⟨a3.moved ha, a4.moved ha⟩, a5.same rfl hvm, a6.same rfl hvm, a7.same rfl hvm⟩
abbrev sm_ty (cI cF : ClassId) : List (ClassId × FieldType) := [(cI, .int), (cF, .object RX0)]
def sm_rm (d : Nat) : Room := { frames := d, cells := 0, slots := 0, locals := 40 * d }
/-- a method's start -/
def sm_Wd (ρ : Nat → Nat) (D : va_G) (cI cF : ClassId) (σ : sm_St) (sz : Nat) (U : State) : Prop :=
  U.heap.size = sz ∧ va_P D vc6 (sm_ws ρ cI cF σ) U.heap ∧ va_K D vc6 (sm_ty cI cF) U ∧ va_D (fun _ => True) (sm_ws ρ cI cF σ) ∧ sm_G ρ (va_A (sm_ws ρ cI cF σ) sz) U U.heap
/-- a method's end -/
def sm_Q (ρ : Nat → Nat) (D : va_G) (cI cF : ClassId) (A : Nat → Prop) (r : Option Value) (σ' : sm_St) : Array Value → State → Outcome → State → Prop :=
  fun _ st oc t => (oc = .returned (r.map (sm_cv ρ)) ∧ va_P D vc6 (sm_ws ρ cI cF σ') t.heap ∧ va_K D vc6 (sm_ty cI cF) t) ∧ va_F A st t
/-- a contract: from the numbers σ and the arguments as, the answer is r and the numbers are σ' -/
def sm_C (y : MethodName) (cc : ByteArray) (nL : Nat) (ret : Option FieldType) (d : Nat) (as : List Value) (σ : sm_St) (r : Option Value) (σ' : sm_St) : Prop :=
  ∀ (l : Launch) (ρ : Nat → Nat) (D : va_G) (cI cF : ClassId) (sz : Nat), Met l y (.code y cc nL ret :: gw) (sm_rm d) (va_Pc (as.map (sm_cv ρ)) (sm_Wd ρ D cI cF σ sz)) (sm_Q ρ D cI cF (va_A (sm_ws ρ cI cF σ) sz) r σ') 0 0 (va_A (sm_ws ρ cI cF σ) sz)
/-- what holds all through a method -/
def sm_X (own : String) (cc : ByteArray) (nL : Nat) (ret : Option FieldType) (p : Program) (s : State) (m : MethodId) (args : Array Value) (meth : Method) (c : Code) (ρ : Nat → Nat) (D : va_G) (cI cF : ClassId) (A : Nat → Prop) : Prop :=
  p.tables.exec = Jvm.exec ∧ c.code = cc ∧ c.maxLocals = nL ∧ s.vm.findClass own = some m.cls ∧ (∀ w ∈ gw, w.before args s = true) ∧ meth.sig.returnType = ret ∧ meth.locks = false ∧ va_K D vc6 (sm_ty cI cF) s ∧ sm_G ρ A s s.heap ∧ ∀ q : Nat, s.heap.size ≤ q → A q
/-- the walk: at pc, with these locals, this stack, these numbers, the method comes to its end with r and σ' -/
def sm_W (own : String) (cc : ByteArray) (nL : Nat) (ret : Option FieldType) (d : Nat) (r : Option Value) (σ' : sm_St) (pc : Nat) (lv : List (Nat × Value)) (st : List Value) (σ : sm_St) : Prop :=
  ∀ ⦃p : Program⦄ ⦃l : Launch⦄ ⦃e : Env⦄ ⦃s : State⦄ ⦃m : MethodId⦄ ⦃args : Array Value⦄ ⦃below : List Frame⦄ ⦃meth : Method⦄ ⦃c : Code⦄ ⦃ρ : Nat → Nat⦄ ⦃D : va_G⦄ ⦃cI cF : ClassId⦄ ⦃A : Nat → Prop⦄ ⦃H : Heap⦄ ⦃locs : List Loc⦄ ⦃ls : Array Slot⦄,
    sm_X own cc nL ret p s m args meth c ρ D cI cF A → lv_has ls nL (sm_cl ρ lv) → va_P D vc6 (sm_ws ρ cI cF σ) H → va_D A (sm_ws ρ cI cF σ) → va_S A s.heap H locs →
    W p l e (sm_rm d) s m args below meth c H locs 0 0 (MQ below (sm_Q ρ D cI cF A r σ') args s 0 0 A) (F0 m pc ls (st.map (sm_cv ρ)))
/-- a contract out of a walk -/
theorem sm_C.of {y : MethodName} {own : String} {cc : ByteArray} {nL d : Nat} {ret : Option FieldType} {as : List Value} {σ σ' : sm_St} {r : Option Value} (hy : plainName y.cls = true) (ho : y.cls = own) (hn : (lg_sl as).length ≤ nL)
    (h : sm_W own cc nL ret d r σ' 0 (lv_args 0 as) [] σ) : sm_C y cc nL ret d as σ r σ' := by
  intro l ρ D cI cF sz
  refine Met.ofW (cc := cc) (maxL := nL) (ret := ret) hy rfl ?_
  intro p e s m args below meth c s₁ B hml hv
  obtain ⟨rfl, hsz, hP, hK, hD0, hG⟩ := hv
  have hts0 := atoms_spec (ws := .code y cc nL ret :: gw) B.pre
  have hown : s.vm.findClass own = some m.cls := ho ▸ findClass_of_methodNamed B.named
  subst hsz
  have hD := hD0.self (sz := s.heap.size)
  have hA : ∀ q : Nat, s.heap.size ≤ q → va_A (sm_ws ρ cI cF σ) s.heap.size q := fun q h => Or.inr h
  have hcat : ∀ vs : List Value, (lg_sl (vs.map (sm_cv ρ))).length = (lg_sl vs).length := by
    intro vs
    induction vs with
    | nil => rfl
    | cons v vs ih =>
      simp only [lg_sl, List.map_cons, List.flatMap_cons, List.length_append] at ih ⊢
      rw [ih]
      cases v <;> rfl
  have hargs : ∀ (vs : List Value) (i : Nat), lv_args i (vs.map (sm_cv ρ)) = sm_cl ρ (lv_args i vs) := by
    intro vs
    induction vs with
    | nil => intro i; rfl
    | cons v vs ih =>
      intro i
      show (i, sm_cv ρ v) :: lv_args _ (vs.map (sm_cv ρ)) = (i, sm_cv ρ v) :: sm_cl ρ (lv_args _ vs)
      rw [sm_cv_cat, ih]
  have hl := lv_entry (as.map (sm_cv ρ)) (n := nL) (by rw [hcat]; exact hn)
  rw [lg_entry_eq]
  rw [hargs] at hl
  exact h ⟨B.exec, B.bytes, hml, hown, fun w hw => hts0 w (List.mem_cons_of_mem _ hw), B.returns, B.notSynchronized, hK, hG, hA⟩ hl hP hD va_S.rf
end
section
section
variable {own : String} {cc : ByteArray} {nL d : Nat} {ret : Option FieldType} {r : Option Value} {σ' σ : sm_St} {pc : Nat} {lv : List (Nat × Value)} {st : List Value}
theorem sw_iconst {n : Int} {v : Int32} (hd : decode cc pc = .ok (.iconst n, 1)) (hv : Int32.ofInt n = v) (k : sm_W own cc nL ret d r σ' (pc + 1) lv (.int v :: st) σ) : sm_W own cc nL ret d r σ' pc lv st σ := by
  intro p l e s m args below meth c ρ D cI cF A H locs ls X hl hP hD hS
  exact lv_iconst X.1 X.2.1 hd hv (k X hl hP hD hS)
theorem sw_bipush {n : Int} {v : Int32} (hd : decode cc pc = .ok (.bipush n, 2)) (hv : (Int8.ofInt n).toInt32 = v) (k : sm_W own cc nL ret d r σ' (pc + 2) lv (.int v :: st) σ) : sm_W own cc nL ret d r σ' pc lv st σ := by
  intro p l e s m args below meth c ρ D cI cF A H locs ls X hl hP hD hS
  exact lv_bipush X.1 X.2.1 hd hv (k X hl hP hD hS)
theorem sw_sipush {n : Int} {v : Int32} (hd : decode cc pc = .ok (.sipush n, 3)) (hv : (Int16.ofInt n).toInt32 = v) (k : sm_W own cc nL ret d r σ' (pc + 3) lv (.int v :: st) σ) : sm_W own cc nL ret d r σ' pc lv st σ := by
  intro p l e s m args below meth c ρ D cI cF A H locs ls X hl hP hD hS
  exact lv_sipush X.1 X.2.1 hd hv (k X hl hP hD hS)
theorem sw_lconst {n : Fin 2} {v : Int64} (hd : decode cc pc = .ok (.lconst n, 1)) (hv : Int64.ofNat (n : Nat) = v) (k : sm_W own cc nL ret d r σ' (pc + 1) lv (.long v :: st) σ) : sm_W own cc nL ret d r σ' pc lv st σ := by
  intro p l e s m args below meth c ρ D cI cF A H locs ls X hl hP hD hS
  exact lv_lconst X.1 X.2.1 hd hv (k X hl hP hD hS)
theorem sw_ldc {index : Nat} {v : Int32} (hd : decode cc pc = .ok (.ldc index, 2)) (hw : Cond.constant own index v ∈ gw) (k : sm_W own cc nL ret d r σ' (pc + 2) lv (.int v :: st) σ) : sm_W own cc nL ret d r σ' pc lv st σ := by
  intro p l e s m args below meth c ρ D cI cF A H locs ls X hl hP hD hS
  exact lv_ldc X.1 X.2.1 X.2.2.2.1 (X.2.2.2.2.1 _ hw) hd (k X hl hP hD hS)
theorem sw_ldc2 {index : Nat} {v : Int64} (hd : decode cc pc = .ok (.ldc2_w index, 3)) (hw : Cond.constantLong own index v ∈ gw) (k : sm_W own cc nL ret d r σ' (pc + 3) lv (.long v :: st) σ) : sm_W own cc nL ret d r σ' pc lv st σ := by
  intro p l e s m args below meth c ρ D cI cF A H locs ls X hl hP hD hS
  exact lv_ldc2 X.1 X.2.1 X.2.2.2.1 (X.2.2.2.2.1 _ hw) hd (k X hl hP hD hS)
theorem sw_iload_n {kk : Fin 4} {x : Int32} (hd : decode cc pc = .ok (.iload_n kk, 1)) (h : sm_lk lv kk = some (.int x)) (k : sm_W own cc nL ret d r σ' (pc + 1) lv (.int x :: st) σ) : sm_W own cc nL ret d r σ' pc lv st σ := by
  intro p l e s m args below meth c ρ D cI cF A H locs ls X hl hP hD hS
  exact lv_iload_n X.1 X.2.1 hd rfl (sm_lk_at hl h) (k X hl hP hD hS)
theorem sw_iload {i : Nat} {x : Int32} (hd : decode cc pc = .ok (.iload i, 2)) (h : sm_lk lv i = some (.int x)) (k : sm_W own cc nL ret d r σ' (pc + 2) lv (.int x :: st) σ) : sm_W own cc nL ret d r σ' pc lv st σ := by
  intro p l e s m args below meth c ρ D cI cF A H locs ls X hl hP hD hS
  exact lv_iload X.1 X.2.1 hd (sm_lk_at hl h) (k X hl hP hD hS)
theorem sw_lload_n {kk : Fin 4} {x : Int64} (hd : decode cc pc = .ok (.lload_n kk, 1)) (h : sm_lk lv kk = some (.long x)) (k : sm_W own cc nL ret d r σ' (pc + 1) lv (.long x :: st) σ) : sm_W own cc nL ret d r σ' pc lv st σ := by
  intro p l e s m args below meth c ρ D cI cF A H locs ls X hl hP hD hS
  exact lv_lload_n X.1 X.2.1 hd rfl (sm_lk_at hl h) (k X hl hP hD hS)
theorem sw_lload {i : Nat} {x : Int64} (hd : decode cc pc = .ok (.lload i, 2)) (h : sm_lk lv i = some (.long x)) (k : sm_W own cc nL ret d r σ' (pc + 2) lv (.long x :: st) σ) : sm_W own cc nL ret d r σ' pc lv st σ := by
  intro p l e s m args below meth c ρ D cI cF A H locs ls X hl hP hD hS
  exact lv_lload X.1 X.2.1 hd (sm_lk_at hl h) (k X hl hP hD hS)
theorem sw_aload_n {kk : Fin 4} {x : Nat} (hd : decode cc pc = .ok (.aload_n kk, 1)) (h : sm_lk lv kk = some (.ref x)) (k : sm_W own cc nL ret d r σ' (pc + 1) lv (.ref x :: st) σ) : sm_W own cc nL ret d r σ' pc lv st σ := by
  intro p l e s m args below meth c ρ D cI cF A H locs ls X hl hP hD hS
  exact lv_aload_n X.1 X.2.1 hd rfl (sm_lk_at hl h) (k X hl hP hD hS)
theorem sw_aload {i x : Nat} (hd : decode cc pc = .ok (.aload i, 2)) (h : sm_lk lv i = some (.ref x)) (k : sm_W own cc nL ret d r σ' (pc + 2) lv (.ref x :: st) σ) : sm_W own cc nL ret d r σ' pc lv st σ := by
  intro p l e s m args below meth c ρ D cI cF A H locs ls X hl hP hD hS
  exact lv_aload X.1 X.2.1 hd (sm_lk_at hl h) (k X hl hP hD hS)
theorem sw_istore_n {kk : Fin 4} {x : Int32} {lv' : List (Nat × Value)} (hd : decode cc pc = .ok (.istore_n kk, 1)) (hn : (kk : Nat) < nL) (h : sm_s1 kk (.int x) lv = lv') (k : sm_W own cc nL ret d r σ' (pc + 1) lv' st σ) : sm_W own cc nL ret d r σ' pc lv (.int x :: st) σ := by
  subst h
  intro p l e s m args below meth c ρ D cI cF A H locs ls X hl hP hD hS
  exact lv_istore_n X.1 X.2.1 hd rfl hl hn (sm_cl_s1 ρ kk (.int x) lv) (fun ls' h' => k X h' hP hD hS)
theorem sw_istore {i : Nat} {x : Int32} {lv' : List (Nat × Value)} (hd : decode cc pc = .ok (.istore i, 2)) (hn : i < nL) (h : sm_s1 i (.int x) lv = lv') (k : sm_W own cc nL ret d r σ' (pc + 2) lv' st σ) : sm_W own cc nL ret d r σ' pc lv (.int x :: st) σ := by
  subst h
  intro p l e s m args below meth c ρ D cI cF A H locs ls X hl hP hD hS
  exact lv_istore X.1 X.2.1 hd hl hn (sm_cl_s1 ρ i (.int x) lv) (fun ls' h' => k X h' hP hD hS)
theorem sw_astore_n {kk : Fin 4} {x : Nat} {lv' : List (Nat × Value)} (hd : decode cc pc = .ok (.astore_n kk, 1)) (hn : (kk : Nat) < nL) (h : sm_s1 kk (.ref x) lv = lv') (k : sm_W own cc nL ret d r σ' (pc + 1) lv' st σ) : sm_W own cc nL ret d r σ' pc lv (.ref x :: st) σ := by
  subst h
  intro p l e s m args below meth c ρ D cI cF A H locs ls X hl hP hD hS
  exact lv_astore_n X.1 X.2.1 hd rfl hl hn (sm_cl_s1 ρ kk (.ref x) lv) (fun ls' h' => k X h' hP hD hS)
theorem sw_lstore_n {kk : Fin 4} {x : Int64} {lv' : List (Nat × Value)} (hd : decode cc pc = .ok (.lstore_n kk, 1)) (hn : (kk : Nat) + 1 < nL) (h : sm_s2 kk (.long x) lv = lv') (k : sm_W own cc nL ret d r σ' (pc + 1) lv' st σ) : sm_W own cc nL ret d r σ' pc lv (.long x :: st) σ := by
  subst h
  intro p l e s m args below meth c ρ D cI cF A H locs ls X hl hP hD hS
  exact lv_lstore_n X.1 X.2.1 hd rfl hl hn (sm_cl_s2 ρ kk (.long x) lv) (fun ls' h' => k X h' hP hD hS)
theorem sw_lstore {i : Nat} {x : Int64} {lv' : List (Nat × Value)} (hd : decode cc pc = .ok (.lstore i, 2)) (hn : i + 1 < nL) (h : sm_s2 i (.long x) lv = lv') (k : sm_W own cc nL ret d r σ' (pc + 2) lv' st σ) : sm_W own cc nL ret d r σ' pc lv (.long x :: st) σ := by
  subst h
  intro p l e s m args below meth c ρ D cI cF A H locs ls X hl hP hD hS
  exact lv_lstore X.1 X.2.1 hd hl hn (sm_cl_s2 ρ i (.long x) lv) (fun ls' h' => k X h' hP hD hS)
theorem sw_iinc {i : Nat} {n : Int} {x v : Int32} {lv' : List (Nat × Value)} (hd : decode cc pc = .ok (.iinc i n, 3)) (hk : sm_lk lv i = some (.int x)) (hv : x + Int32.ofInt n = v) (hn : i < nL) (h : sm_s1 i (.int v) lv = lv') (k : sm_W own cc nL ret d r σ' (pc + 3) lv' st σ) : sm_W own cc nL ret d r σ' pc lv st σ := by
  subst h
  intro p l e s m args below meth c ρ D cI cF A H locs ls X hl hP hD hS
  have h2 : ∃ kk : Nat, (sm_cl ρ lv)[kk]? = some (i, .int x) := by
    have key : ∀ lv : List (Nat × Value), sm_lk lv i = some (.int x) → ∃ kk : Nat, (sm_cl ρ lv)[kk]? = some (i, .int x) := by
      intro lv
      induction lv with
      | nil => intro h; cases h
      | cons q t ih =>
        intro h
        unfold sm_lk at h
        by_cases hq : q.1 = i
        · rw [if_pos hq] at h
          refine ⟨0, ?_⟩
          show some (q.1, sm_cv ρ q.2) = _
          rw [hq, Option.some.inj h]
          rfl
        · rw [if_neg hq] at h
          obtain ⟨kk, h⟩ := ih h
          exact ⟨kk + 1, h⟩
    exact key lv hk
  obtain ⟨kk, h2⟩ := h2
  exact lv_iinc X.1 X.2.1 hd hl h2 hv hn (sm_cl_s1 ρ i (.int v) lv) (fun ls' h' => k X h' hP hD hS)
theorem sw_iadd {x y : Int32} (hd : decode cc pc = .ok (.iadd, 1)) (k : sm_W own cc nL ret d r σ' (pc + 1) lv (.int (x + y) :: st) σ) : sm_W own cc nL ret d r σ' pc lv (.int y :: .int x :: st) σ := by
  intro p l e s m args below meth c ρ D cI cF A H locs ls X hl hP hD hS
  exact lv_iadd X.1 X.2.1 hd (k X hl hP hD hS)
theorem sw_isub {x y : Int32} (hd : decode cc pc = .ok (.isub, 1)) (k : sm_W own cc nL ret d r σ' (pc + 1) lv (.int (x - y) :: st) σ) : sm_W own cc nL ret d r σ' pc lv (.int y :: .int x :: st) σ := by
  intro p l e s m args below meth c ρ D cI cF A H locs ls X hl hP hD hS
  exact lv_isub X.1 X.2.1 hd (k X hl hP hD hS)
theorem sw_imul {x y : Int32} (hd : decode cc pc = .ok (.imul, 1)) (k : sm_W own cc nL ret d r σ' (pc + 1) lv (.int (x * y) :: st) σ) : sm_W own cc nL ret d r σ' pc lv (.int y :: .int x :: st) σ := by
  intro p l e s m args below meth c ρ D cI cF A H locs ls X hl hP hD hS
  exact lv_imul X.1 X.2.1 hd (k X hl hP hD hS)
theorem sw_iand {x y : Int32} (hd : decode cc pc = .ok (.iand, 1)) (k : sm_W own cc nL ret d r σ' (pc + 1) lv (.int (x &&& y) :: st) σ) : sm_W own cc nL ret d r σ' pc lv (.int y :: .int x :: st) σ := by
  intro p l e s m args below meth c ρ D cI cF A H locs ls X hl hP hD hS
  exact lv_iand X.1 X.2.1 hd (k X hl hP hD hS)
theorem sw_ior {x y : Int32} (hd : decode cc pc = .ok (.ior, 1)) (k : sm_W own cc nL ret d r σ' (pc + 1) lv (.int (x ||| y) :: st) σ) : sm_W own cc nL ret d r σ' pc lv (.int y :: .int x :: st) σ := by
  intro p l e s m args below meth c ρ D cI cF A H locs ls X hl hP hD hS
  exact lv_ior X.1 X.2.1 hd (k X hl hP hD hS)
theorem sw_ixor {x y : Int32} (hd : decode cc pc = .ok (.ixor, 1)) (k : sm_W own cc nL ret d r σ' (pc + 1) lv (.int (x ^^^ y) :: st) σ) : sm_W own cc nL ret d r σ' pc lv (.int y :: .int x :: st) σ := by
  intro p l e s m args below meth c ρ D cI cF A H locs ls X hl hP hD hS
  exact lv_ixor X.1 X.2.1 hd (k X hl hP hD hS)
theorem sw_ishl {x y : Int32} (hd : decode cc pc = .ok (.ishl, 1)) (k : sm_W own cc nL ret d r σ' (pc + 1) lv (.int (x <<< (y &&& 31)) :: st) σ) : sm_W own cc nL ret d r σ' pc lv (.int y :: .int x :: st) σ := by
  intro p l e s m args below meth c ρ D cI cF A H locs ls X hl hP hD hS
  exact lv_ishl X.1 X.2.1 hd (k X hl hP hD hS)
theorem sw_ishr {x y : Int32} (hd : decode cc pc = .ok (.ishr, 1)) (k : sm_W own cc nL ret d r σ' (pc + 1) lv (.int (x >>> (y &&& 31)) :: st) σ) : sm_W own cc nL ret d r σ' pc lv (.int y :: .int x :: st) σ := by
  intro p l e s m args below meth c ρ D cI cF A H locs ls X hl hP hD hS
  exact lv_ishr X.1 X.2.1 hd (k X hl hP hD hS)
theorem sw_iushr {x y : Int32} (hd : decode cc pc = .ok (.iushr, 1)) (k : sm_W own cc nL ret d r σ' (pc + 1) lv (.int ((x.toUInt32 >>> (y.toUInt32 &&& Int32.toUInt32 31)).toInt32) :: st) σ) : sm_W own cc nL ret d r σ' pc lv (.int y :: .int x :: st) σ := by
  intro p l e s m args below meth c ρ D cI cF A H locs ls X hl hP hD hS
  exact lv_iushr X.1 X.2.1 hd rfl (k X hl hP hD hS)
theorem sw_idiv {x y : Int32} (hd : decode cc pc = .ok (.idiv, 1)) (hne : ¬ y = 0) (k : sm_W own cc nL ret d r σ' (pc + 1) lv (.int (x / y) :: st) σ) : sm_W own cc nL ret d r σ' pc lv (.int y :: .int x :: st) σ := by
  intro p l e s m args below meth c ρ D cI cF A H locs ls X hl hP hD hS
  exact lv_idiv X.1 X.2.1 hd hne (k X hl hP hD hS)
theorem sw_irem {x y : Int32} (hd : decode cc pc = .ok (.irem, 1)) (hne : ¬ y = 0) (k : sm_W own cc nL ret d r σ' (pc + 1) lv (.int (x - x / y * y) :: st) σ) : sm_W own cc nL ret d r σ' pc lv (.int y :: .int x :: st) σ := by
  intro p l e s m args below meth c ρ D cI cF A H locs ls X hl hP hD hS
  exact lv_irem X.1 X.2.1 hd hne (k X hl hP hD hS)
theorem sw_ineg {x : Int32} (hd : decode cc pc = .ok (.ineg, 1)) (k : sm_W own cc nL ret d r σ' (pc + 1) lv (.int (-x) :: st) σ) : sm_W own cc nL ret d r σ' pc lv (.int x :: st) σ := by
  intro p l e s m args below meth c ρ D cI cF A H locs ls X hl hP hD hS
  exact lv_ineg X.1 X.2.1 hd (k X hl hP hD hS)
theorem sw_ladd {x y : Int64} (hd : decode cc pc = .ok (.ladd, 1)) (k : sm_W own cc nL ret d r σ' (pc + 1) lv (.long (x + y) :: st) σ) : sm_W own cc nL ret d r σ' pc lv (.long y :: .long x :: st) σ := by
  intro p l e s m args below meth c ρ D cI cF A H locs ls X hl hP hD hS
  exact lv_ladd X.1 X.2.1 hd (k X hl hP hD hS)
theorem sw_lmul {x y : Int64} (hd : decode cc pc = .ok (.lmul, 1)) (k : sm_W own cc nL ret d r σ' (pc + 1) lv (.long (x * y) :: st) σ) : sm_W own cc nL ret d r σ' pc lv (.long y :: .long x :: st) σ := by
  intro p l e s m args below meth c ρ D cI cF A H locs ls X hl hP hD hS
  exact lv_lmul X.1 X.2.1 hd (k X hl hP hD hS)
theorem sw_ldiv {x y : Int64} (hd : decode cc pc = .ok (.ldiv, 1)) (hne : ¬ y = 0) (k : sm_W own cc nL ret d r σ' (pc + 1) lv (.long (x / y) :: st) σ) : sm_W own cc nL ret d r σ' pc lv (.long y :: .long x :: st) σ := by
  intro p l e s m args below meth c ρ D cI cF A H locs ls X hl hP hD hS
  exact lv_ldiv X.1 X.2.1 hd hne (k X hl hP hD hS)
theorem sw_lrem {x y : Int64} (hd : decode cc pc = .ok (.lrem, 1)) (hne : ¬ y = 0) (k : sm_W own cc nL ret d r σ' (pc + 1) lv (.long (x - x / y * y) :: st) σ) : sm_W own cc nL ret d r σ' pc lv (.long y :: .long x :: st) σ := by
  intro p l e s m args below meth c ρ D cI cF A H locs ls X hl hP hD hS
  exact lv_lrem X.1 X.2.1 hd hne (k X hl hP hD hS)
theorem sw_lcmp {x y : Int64} (hd : decode cc pc = .ok (.lcmp, 1)) (k : sm_W own cc nL ret d r σ' (pc + 1) lv (.int (lg_cmp x y) :: st) σ) : sm_W own cc nL ret d r σ' pc lv (.long y :: .long x :: st) σ := by
  intro p l e s m args below meth c ρ D cI cF A H locs ls X hl hP hD hS
  exact W.lcmp X.1 X.2.1 hd (k X hl hP hD hS)
theorem sw_i2l {x : Int32} (hd : decode cc pc = .ok (.i2l, 1)) (k : sm_W own cc nL ret d r σ' (pc + 1) lv (.long x.toInt64 :: st) σ) : sm_W own cc nL ret d r σ' pc lv (.int x :: st) σ := by
  intro p l e s m args below meth c ρ D cI cF A H locs ls X hl hP hD hS
  exact lv_i2l X.1 X.2.1 hd rfl (k X hl hP hD hS)
theorem sw_l2i {x : Int64} (hd : decode cc pc = .ok (.l2i, 1)) (k : sm_W own cc nL ret d r σ' (pc + 1) lv (.int x.toInt32 :: st) σ) : sm_W own cc nL ret d r σ' pc lv (.long x :: st) σ := by
  intro p l e s m args below meth c ρ D cI cF A H locs ls X hl hP hD hS
  exact lv_l2i X.1 X.2.1 hd rfl (k X hl hP hD hS)
theorem sw_dup {v : Value} (hd : decode cc pc = .ok (.dup, 1)) (hc : v.category = 1) (k : sm_W own cc nL ret d r σ' (pc + 1) lv (v :: v :: st) σ) : sm_W own cc nL ret d r σ' pc lv (v :: st) σ := by
  intro p l e s m args below meth c ρ D cI cF A H locs ls X hl hP hD hS
  exact lv_dup X.1 X.2.1 hd (by rw [sm_cv_cat]; exact hc) (k X hl hP hD hS)
theorem sw_pop {v : Value} (hd : decode cc pc = .ok (.pop, 1)) (hc : v.category = 1) (k : sm_W own cc nL ret d r σ' (pc + 1) lv st σ) : sm_W own cc nL ret d r σ' pc lv (v :: st) σ := by
  intro p l e s m args below meth c ρ D cI cF A H locs ls X hl hP hD hS
  exact lv_pop X.1 X.2.1 hd (by rw [sm_cv_cat]; exact hc) (k X hl hP hD hS)
theorem sw_goto {off : Int} {tgt : Nat} (hd : decode cc pc = .ok (.goto off, 3)) (ht : (pc : Int) + off = (tgt : Int)) (k : sm_W own cc nL ret d r σ' tgt lv st σ) : sm_W own cc nL ret d r σ' pc lv st σ := by
  intro p l e s m args below meth c ρ D cI cF A H locs ls X hl hP hD hS
  exact lv_goto X.1 X.2.1 hd ht (k X hl hP hD hS)
theorem sw_if_eq {x : Int32} {off : Int} {tgt : Nat} (hd : decode cc pc = .ok (.ifCond .eq off, 3)) (ht : (pc : Int) + off = (tgt : Int)) (kt : x = 0 → sm_W own cc nL ret d r σ' tgt lv st σ) (kf : ¬ x = 0 → sm_W own cc nL ret d r σ' (pc + 3) lv st σ) : sm_W own cc nL ret d r σ' pc lv (.int x :: st) σ := by
  intro p l e s m args below meth c ρ D cI cF A H locs ls X hl hP hD hS
  exact lv_if_eq X.1 X.2.1 hd ht (fun h => kt h X hl hP hD hS) (fun h => kf h X hl hP hD hS)
theorem sw_if_ne {x : Int32} {off : Int} {tgt : Nat} (hd : decode cc pc = .ok (.ifCond .ne off, 3)) (ht : (pc : Int) + off = (tgt : Int)) (kt : ¬ x = 0 → sm_W own cc nL ret d r σ' tgt lv st σ) (kf : x = 0 → sm_W own cc nL ret d r σ' (pc + 3) lv st σ) : sm_W own cc nL ret d r σ' pc lv (.int x :: st) σ := by
  intro p l e s m args below meth c ρ D cI cF A H locs ls X hl hP hD hS
  exact lv_if_ne X.1 X.2.1 hd ht (fun h => kt h X hl hP hD hS) (fun h => kf h X hl hP hD hS)
theorem sw_if_lt {x : Int32} {off : Int} {tgt : Nat} (hd : decode cc pc = .ok (.ifCond .lt off, 3)) (ht : (pc : Int) + off = (tgt : Int)) (kt : x < 0 → sm_W own cc nL ret d r σ' tgt lv st σ) (kf : ¬ x < 0 → sm_W own cc nL ret d r σ' (pc + 3) lv st σ) : sm_W own cc nL ret d r σ' pc lv (.int x :: st) σ := by
  intro p l e s m args below meth c ρ D cI cF A H locs ls X hl hP hD hS
  exact lv_if_lt X.1 X.2.1 hd ht (fun h => kt h X hl hP hD hS) (fun h => kf h X hl hP hD hS)
theorem sw_if_ge {x : Int32} {off : Int} {tgt : Nat} (hd : decode cc pc = .ok (.ifCond .ge off, 3)) (ht : (pc : Int) + off = (tgt : Int)) (kt : 0 ≤ x → sm_W own cc nL ret d r σ' tgt lv st σ) (kf : ¬ 0 ≤ x → sm_W own cc nL ret d r σ' (pc + 3) lv st σ) : sm_W own cc nL ret d r σ' pc lv (.int x :: st) σ := by
  intro p l e s m args below meth c ρ D cI cF A H locs ls X hl hP hD hS
  exact lv_if_ge X.1 X.2.1 hd ht (fun h => kt h X hl hP hD hS) (fun h => kf h X hl hP hD hS)
theorem sw_if_gt {x : Int32} {off : Int} {tgt : Nat} (hd : decode cc pc = .ok (.ifCond .gt off, 3)) (ht : (pc : Int) + off = (tgt : Int)) (kt : 0 < x → sm_W own cc nL ret d r σ' tgt lv st σ) (kf : ¬ 0 < x → sm_W own cc nL ret d r σ' (pc + 3) lv st σ) : sm_W own cc nL ret d r σ' pc lv (.int x :: st) σ := by
  intro p l e s m args below meth c ρ D cI cF A H locs ls X hl hP hD hS
  exact lv_if_gt X.1 X.2.1 hd ht (fun h => kt h X hl hP hD hS) (fun h => kf h X hl hP hD hS)
theorem sw_if_le {x : Int32} {off : Int} {tgt : Nat} (hd : decode cc pc = .ok (.ifCond .le off, 3)) (ht : (pc : Int) + off = (tgt : Int)) (kt : x ≤ 0 → sm_W own cc nL ret d r σ' tgt lv st σ) (kf : ¬ x ≤ 0 → sm_W own cc nL ret d r σ' (pc + 3) lv st σ) : sm_W own cc nL ret d r σ' pc lv (.int x :: st) σ := by
  intro p l e s m args below meth c ρ D cI cF A H locs ls X hl hP hD hS
  exact lv_if_le X.1 X.2.1 hd ht (fun h => kt h X hl hP hD hS) (fun h => kf h X hl hP hD hS)
theorem sw_icmp_eq {x y : Int32} {off : Int} {tgt : Nat} (hd : decode cc pc = .ok (.if_icmp .eq off, 3)) (ht : (pc : Int) + off = (tgt : Int)) (kt : x = y → sm_W own cc nL ret d r σ' tgt lv st σ) (kf : ¬ x = y → sm_W own cc nL ret d r σ' (pc + 3) lv st σ) : sm_W own cc nL ret d r σ' pc lv (.int y :: .int x :: st) σ := by
  intro p l e s m args below meth c ρ D cI cF A H locs ls X hl hP hD hS
  exact lv_icmp_eq X.1 X.2.1 hd ht (fun h => kt h X hl hP hD hS) (fun h => kf h X hl hP hD hS)
theorem sw_icmp_ne {x y : Int32} {off : Int} {tgt : Nat} (hd : decode cc pc = .ok (.if_icmp .ne off, 3)) (ht : (pc : Int) + off = (tgt : Int)) (kt : ¬ x = y → sm_W own cc nL ret d r σ' tgt lv st σ) (kf : x = y → sm_W own cc nL ret d r σ' (pc + 3) lv st σ) : sm_W own cc nL ret d r σ' pc lv (.int y :: .int x :: st) σ := by
  intro p l e s m args below meth c ρ D cI cF A H locs ls X hl hP hD hS
  exact lv_icmp_ne X.1 X.2.1 hd ht (fun h => kt h X hl hP hD hS) (fun h => kf h X hl hP hD hS)
theorem sw_icmp_lt {x y : Int32} {off : Int} {tgt : Nat} (hd : decode cc pc = .ok (.if_icmp .lt off, 3)) (ht : (pc : Int) + off = (tgt : Int)) (kt : x < y → sm_W own cc nL ret d r σ' tgt lv st σ) (kf : ¬ x < y → sm_W own cc nL ret d r σ' (pc + 3) lv st σ) : sm_W own cc nL ret d r σ' pc lv (.int y :: .int x :: st) σ := by
  intro p l e s m args below meth c ρ D cI cF A H locs ls X hl hP hD hS
  exact lv_icmp_lt X.1 X.2.1 hd ht (fun h => kt h X hl hP hD hS) (fun h => kf h X hl hP hD hS)
theorem sw_icmp_ge {x y : Int32} {off : Int} {tgt : Nat} (hd : decode cc pc = .ok (.if_icmp .ge off, 3)) (ht : (pc : Int) + off = (tgt : Int)) (kt : y ≤ x → sm_W own cc nL ret d r σ' tgt lv st σ) (kf : ¬ y ≤ x → sm_W own cc nL ret d r σ' (pc + 3) lv st σ) : sm_W own cc nL ret d r σ' pc lv (.int y :: .int x :: st) σ := by
  intro p l e s m args below meth c ρ D cI cF A H locs ls X hl hP hD hS
  exact lv_icmp_ge X.1 X.2.1 hd ht (fun h => kt h X hl hP hD hS) (fun h => kf h X hl hP hD hS)
theorem sw_icmp_gt {x y : Int32} {off : Int} {tgt : Nat} (hd : decode cc pc = .ok (.if_icmp .gt off, 3)) (ht : (pc : Int) + off = (tgt : Int)) (kt : y < x → sm_W own cc nL ret d r σ' tgt lv st σ) (kf : ¬ y < x → sm_W own cc nL ret d r σ' (pc + 3) lv st σ) : sm_W own cc nL ret d r σ' pc lv (.int y :: .int x :: st) σ := by
  intro p l e s m args below meth c ρ D cI cF A H locs ls X hl hP hD hS
  exact lv_icmp_gt X.1 X.2.1 hd ht (fun h => kt h X hl hP hD hS) (fun h => kf h X hl hP hD hS)
theorem sw_icmp_le {x y : Int32} {off : Int} {tgt : Nat} (hd : decode cc pc = .ok (.if_icmp .le off, 3)) (ht : (pc : Int) + off = (tgt : Int)) (kt : x ≤ y → sm_W own cc nL ret d r σ' tgt lv st σ) (kf : ¬ x ≤ y → sm_W own cc nL ret d r σ' (pc + 3) lv st σ) : sm_W own cc nL ret d r σ' pc lv (.int y :: .int x :: st) σ := by
  intro p l e s m args below meth c ρ D cI cF A H locs ls X hl hP hD hS
  exact lv_icmp_le X.1 X.2.1 hd ht (fun h => kt h X hl hP hD hS) (fun h => kf h X hl hP hD hS)
theorem sw_tableIn {dflt lo hi : Int} {offs : Array Int} {len : Nat} {x : Int32} {off : Int} {tgt : Nat} (hd : decode cc pc = .ok (.tableswitch dflt lo hi offs, len)) (h1 : ¬ x.toInt < lo) (h2 : ¬ hi < x.toInt) (ho : offs[(x.toInt - lo).toNat]? = some off) (ht : (pc : Int) + off = (tgt : Int)) (k : sm_W own cc nL ret d r σ' tgt lv st σ) : sm_W own cc nL ret d r σ' pc lv (.int x :: st) σ := by
  intro p l e s m args below meth c ρ D cI cF A H locs ls X hl hP hD hS
  exact lv_tableIn X.1 X.2.1 hd h1 h2 ho ht (k X hl hP hD hS)
theorem sw_tableOut {dflt lo hi : Int} {offs : Array Int} {len : Nat} {x : Int32} {tgt : Nat} (hd : decode cc pc = .ok (.tableswitch dflt lo hi offs, len)) (h : x.toInt < lo ∨ hi < x.toInt) (ht : (pc : Int) + dflt = (tgt : Int)) (k : sm_W own cc nL ret d r σ' tgt lv st σ) : sm_W own cc nL ret d r σ' pc lv (.int x :: st) σ := by
  intro p l e s m args below meth c ρ D cI cF A H locs ls X hl hP hD hS
  exact lv_tableOut X.1 X.2.1 hd h ht (k X hl hP hD hS)
theorem sw_lookup {dflt : Int} {ps : Array (Int × Int)} {len : Nat} {x : Int32} {off : Int} {tgt : Nat} (hd : decode cc pc = .ok (.lookupswitch dflt ps, len)) (hp : (ps.toList.zip (ps.toList.drop 1)).all (fun (a, next) => a.1 < next.1) = true) (ho : Op.lookupswitch.offset ps.toList dflt x.toInt = off) (ht : (pc : Int) + off = (tgt : Int)) (k : sm_W own cc nL ret d r σ' tgt lv st σ) : sm_W own cc nL ret d r σ' pc lv (.int x :: st) σ := by
  intro p l e s m args below meth c ρ D cI cF A H locs ls X hl hP hD hS
  exact lv_lookup X.1 X.2.1 hd hp ho ht (k X hl hP hD hS)
theorem sw_ifnull {x : Nat} {off : Int} (hd : decode cc pc = .ok (.ifnull off, 3)) (k : sm_W own cc nL ret d r σ' (pc + 3) lv st σ) : sm_W own cc nL ret d r σ' pc lv (.ref x :: st) σ := by
  intro p l e s m args below meth c ρ D cI cF A H locs ls X hl hP hD hS
  exact lv_ifnull X.1 X.2.1 hd (k X hl hP hD hS)
end
/-! fields -/
theorem sm_in : ∀ ci, ci < 6 → ∀ w ∈ u_ws (sm_c ci).1 (sm_c ci).2.1 (sm_c ci).2.2, w ∈ gw
  | 0, _ => by decide +kernel
  | 1, _ => by decide +kernel
  | 2, _ => by decide +kernel
  | 3, _ => by decide +kernel
  | 4, _ => by decide +kernel
  | 5, _ => by decide +kernel
  | n + 6, h => by omega
theorem sm_nm : ∀ ci, ci < 6 → ∃ ty : Nat → FieldType, (∀ k, k < (sm_c ci).2.2 → parseFieldDescriptor ((sm_c ci).2.1 k).2.2.1 = some (ty k)) ∧ (∀ a, a < (sm_c ci).2.2 → ∀ b, b < (sm_c ci).2.2 → a ≠ b → ((sm_c ci).2.1 a).2.1 ≠ ((sm_c ci).2.1 b).2.1)
  | 0, _ => ⟨tyX0, tyX0_ok, nmX0⟩
  | 1, _ => ⟨tyX1, tyX1_ok, nmX1⟩
  | 2, _ => ⟨tyX3, tyX3_ok, nmX3⟩
  | 3, _ => ⟨tyX4, tyX4_ok, nmX4⟩
  | 4, _ => ⟨tyX5, tyX5_ok, nmX5⟩
  | 5, _ => ⟨tyX6, tyX6_ok, nmX6⟩
  | n + 6, h => by omega
/-- a link of the constant pool: the field i of the class ci -/
def sm_fl (own : String) (idx ci i : Nat) : Prop := ci < 6 ∧ i < (sm_c ci).2.2 ∧ Cond.fieldLink own idx ((sm_c ci).2.1 i).1 ((sm_c ci).2.1 i).2.1 ((sm_c ci).2.1 i).2.2.1 ∈ gw
/-- and it's a whole number that isn't final -/
def sm_fi (ci i : Nat) : Prop := ((sm_c ci).2.1 i).2.2.2 = false ∧ parseFieldDescriptor ((sm_c ci).2.1 i).2.2.1 = some .int
theorem sm_free {A : Nat → Prop} {ρ : Nat → Nat} {cI cF : ClassId} {σ : sm_St} {s : State} {H : Heap} {locs : List Loc} (hD : va_D A (sm_ws ρ cI cF σ)) (hA : ∀ q : Nat, s.heap.size ≤ q → A q) (hS : va_S A s.heap H locs) : ∀ q, va_A (sm_ws ρ cI cF σ) H.size q → A q := by
  intro q h
  rcases h with ⟨k, e, h⟩ | h
  · exact hD.2 k _ h
  · exact hA q (Nat.le_trans hS.1 h)
section
variable {own : String} {cc : ByteArray} {nL d : Nat} {ret : Option FieldType} {r : Option Value} {σ' σ : sm_St} {pc : Nat} {lv : List (Nat × Value)} {st : List Value}
theorem sw_getV {idx ci i k : Nat} (hd : decode cc pc = .ok (.getfield idx, 3)) (hf : sm_fl own idx ci i) (ho : sm_ocl k = some ci) {v : Value} (hv : ∀ ρ, sm_fv ρ σ ci k i = sm_cv ρ v) (kk : sm_W own cc nL ret d r σ' (pc + 3) lv (v :: st) σ) : sm_W own cc nL ret d r σ' pc lv (.ref k :: st) σ := by
  intro p l e s m args below meth c ρ D cI cF A H locs ls X hl hP hD hS
  obtain ⟨x1, x2, x3, x4, x5, x6, x7, x8, x9, x10⟩ := id X
  have hk := (sm_ocl_lt ho).1
  refine va_get (D := D) (ws := sm_ws ρ cI cF σ) (C := (sm_c ci).1) (T := (sm_c ci).2.1) (N := (sm_c ci).2.2) (ref := ((sm_c ci).2.1 i).1) (fs := (List.range (sm_c ci).2.2).map (sm_fv ρ σ ci k)) x1 x2 (Ts := gw) x5 (sm_in ci hf.1) x4 x8 hP k (ci := ci) ((sm_ws_at hk).trans (by rw [sm_cel_o ho])) (sm_c_at ci hf.1) i hf.2.1 (x5 _ hf.2.2) (fun _ h => h) (v := sm_cv ρ v) ?_ hd (kk X hl hP hD hS)
  rw [List.getElem?_map, List.getElem?_range hf.2.1, ← hv]
  rfl
theorem sw_getI {idx ci i k : Nat} (hd : decode cc pc = .ok (.getfield idx, 3)) (hf : sm_fl own idx ci i) (ho : sm_ocl k = some ci) (hr : sm_rf ci k i = none) (kk : sm_W own cc nL ret d r σ' (pc + 3) lv (.int (σ k i) :: st) σ) : sm_W own cc nL ret d r σ' pc lv (.ref k :: st) σ :=
  sw_getV hd hf ho (v := .int (σ k i)) (fun ρ => by unfold sm_fv; rw [hr]; rfl) kk
theorem sw_getR {idx ci i k j : Nat} (hd : decode cc pc = .ok (.getfield idx, 3)) (hf : sm_fl own idx ci i) (ho : sm_ocl k = some ci) (hr : sm_rf ci k i = some j) (kk : sm_W own cc nL ret d r σ' (pc + 3) lv (.ref j :: st) σ) : sm_W own cc nL ret d r σ' pc lv (.ref k :: st) σ :=
  sw_getV hd hf ho (v := .ref j) (fun ρ => by unfold sm_fv; rw [hr]; rfl) kk
theorem sw_put {idx ci i k : Nat} {v : Int32} (hd : decode cc pc = .ok (.putfield idx, 3)) (hf : sm_fl own idx ci i) (hi : sm_fi ci i) (ho : sm_ocl k = some ci) (hr : sm_rf ci k i = none) (kk : sm_W own cc nL ret d r σ' (pc + 3) lv st (sm_set σ k i v)) : sm_W own cc nL ret d r σ' pc lv (.int v :: .ref k :: st) σ := by
  intro p l e s m args below meth c ρ D cI cF A H locs ls X hl hP hD hS
  obtain ⟨x1, x2, x3, x4, x5, x6, x7, x8, x9, x10⟩ := id X
  have hk := (sm_ocl_lt ho).1
  obtain ⟨ty, ht, hnm⟩ := sm_nm ci hf.1
  refine va_put (D := D) (ws := sm_ws ρ cI cF σ) (C := (sm_c ci).1) (T := (sm_c ci).2.1) (N := (sm_c ci).2.2) (ref := ((sm_c ci).2.1 i).1) (fs := (List.range (sm_c ci).2.2).map (sm_fv ρ σ ci k)) (v := .int v) (ty := .int) x1 x2 (Ts := gw) x5 (sm_in ci hf.1) ty ht hnm x4 x8 hP hD hS k (ci := ci) ((sm_ws_at hk).trans (by rw [sm_cel_o ho])) (sm_c_at ci hf.1) i hf.2.1 (x5 _ hf.2.2) (fun _ h => h) hi.1 hi.2 rfl rfl (by simp; exact hf.2.1) hd (fun H1 locs1 hP1 hD1 hS1 => ?_)
  rw [sm_ws_put ho hr hf.2.1] at hP1 hD1
  exact kk X hl hP1 hD1 hS1
/-! rows of numbers -/
theorem sw_iald {k n : Nat} {i : Int32} {x : Int32} (hd : decode cc pc = .ok (.iaload, 1)) (ha : sm_aln k = some n) (hin : vp_in i n) (hx : σ k i.toNatClampNeg = x) (kk : sm_W own cc nL ret d r σ' (pc + 1) lv (.int x :: st) σ) : sm_W own cc nL ret d r σ' pc lv (.int i :: .ref k :: st) σ := by
  subst hx
  intro p l e s m args below meth c ρ D cI cF A H locs ls X hl hP hD hS
  obtain ⟨x1, x2, x3, x4, x5, x6, x7, x8, x9, x10⟩ := id X
  exact va_iald (ws := sm_ws ρ cI cF σ) x1 x2 x8 hP k 0 ((sm_ws_at (sm_aln_lt ha).1).trans (by rw [sm_cel_a ha])) rfl hin hd (kk X hl hP hD hS)
theorem sw_iast {k n : Nat} {i v : Int32} (hd : decode cc pc = .ok (.iastore, 1)) (ha : sm_aln k = some n) (hin : vp_in i n) (kk : sm_W own cc nL ret d r σ' (pc + 1) lv st (sm_set σ k i.toNatClampNeg v)) : sm_W own cc nL ret d r σ' pc lv (.int v :: .int i :: .ref k :: st) σ := by
  intro p l e s m args below meth c ρ D cI cF A H locs ls X hl hP hD hS
  obtain ⟨x1, x2, x3, x4, x5, x6, x7, x8, x9, x10⟩ := id X
  refine va_iast (ws := sm_ws ρ cI cF σ) x1 x2 x8 hP hD hS k 0 ((sm_ws_at (sm_aln_lt ha).1).trans (by rw [sm_cel_a ha])) rfl hin hd (fun H1 locs1 hP1 hD1 hS1 => ?_)
  rw [sm_ws_row ha] at hP1 hD1
  exact kk X hl hP1 hD1 hS1
theorem sw_alen {k n : Nat} (hd : decode cc pc = .ok (.arraylength, 1)) (ha : sm_aln k = some n) (kk : sm_W own cc nL ret d r σ' (pc + 1) lv (.int (nI n) :: st) σ) : sm_W own cc nL ret d r σ' pc lv (.ref k :: st) σ := by
  intro p l e s m args below meth c ρ D cI cF A H locs ls X hl hP hD hS
  obtain ⟨x1, x2, x3, x4, x5, x6, x7, x8, x9, x10⟩ := id X
  exact va_alen (ws := sm_ws ρ cI cF σ) x1 x2 x8 hP k 0 ((sm_ws_at (sm_aln_lt ha).1).trans (by rw [sm_cel_a ha])) rfl rfl hd (kk X hl hP hD hS)
theorem sw_alenR {k n b : Nat} (hd : decode cc pc = .ok (.arraylength, 1)) (ha : sm_rln k = some (n, b)) (hk : k < 128) (ho : sm_ocl k = none) (kk : sm_W own cc nL ret d r σ' (pc + 1) lv (.int (nI n) :: st) σ) : sm_W own cc nL ret d r σ' pc lv (.ref k :: st) σ := by
  intro p l e s m args below meth c ρ D cI cF A H locs ls X hl hP hD hS
  obtain ⟨x1, x2, x3, x4, x5, x6, x7, x8, x9, x10⟩ := id X
  exact va_alen (ws := sm_ws ρ cI cF σ) x1 x2 x8 hP k 1 (cA := cF) (x := (n, .inr (.inr (.inr (.inr (fun i => some (ρ (b + 8 * i)))))))) ((sm_ws_at hk).trans (by unfold sm_cel; rw [ho, ha])) (ty := .object RX0) rfl rfl hd (kk X hl hP hD hS)
theorem sw_aald {k n b j : Nat} {i : Int32} (hd : decode cc pc = .ok (.aaload, 1)) (ha : sm_rln k = some (n, b)) (hk : k < 128) (ho : sm_ocl k = none) (hin : vp_in i n) (hj : b + 8 * i.toNatClampNeg = j) (kk : sm_W own cc nL ret d r σ' (pc + 1) lv (.ref j :: st) σ) : sm_W own cc nL ret d r σ' pc lv (.int i :: .ref k :: st) σ := by
  subst hj
  intro p l e s m args below meth c ρ D cI cF A H locs ls X hl hP hD hS
  obtain ⟨x1, x2, x3, x4, x5, x6, x7, x8, x9, x10⟩ := id X
  exact va_aldq (ws := sm_ws ρ cI cF σ) (f := fun i => some (ρ (b + 8 * i))) x1 x2 x8 hP k 1 (cA := cF) (C := RX0) (n := n) ((sm_ws_at hk).trans (by unfold sm_cel; rw [ho, ha])) rfl hin hd (kk X hl hP hD hS)
/-! the two static tables -/
theorem sw_getX {idx : Nat} (hd : decode cc pc = .ok (.getstatic idx, 3)) (hf : Cond.fieldLink own idx RX0 "STEP_X" "[I" ∈ gw) (kk : sm_W own cc nL ret d r σ' (pc + 3) lv (.ref 200 :: st) σ) : sm_W own cc nL ret d r σ' pc lv st σ := by
  intro p l e s m args below meth c ρ D cI cF A H locs ls X hl hP hD hS
  obtain ⟨x1, x2, x3, x4, x5, x6, x7, x8, x9, x10⟩ := id X
  exact va_gets x1 x2 x9.1.1 hS x4 (x5 _ hf) (fun _ h => h) hd (kk X hl hP hD hS)
theorem sw_getY {idx : Nat} (hd : decode cc pc = .ok (.getstatic idx, 3)) (hf : Cond.fieldLink own idx RX0 "STEP_Y" "[I" ∈ gw) (kk : sm_W own cc nL ret d r σ' (pc + 3) lv (.ref 201 :: st) σ) : sm_W own cc nL ret d r σ' pc lv st σ := by
  intro p l e s m args below meth c ρ D cI cF A H locs ls X hl hP hD hS
  obtain ⟨x1, x2, x3, x4, x5, x6, x7, x8, x9, x10⟩ := id X
  exact va_gets x1 x2 x9.2.1.1 hS x4 (x5 _ hf) (fun _ h => h) hd (kk X hl hP hD hS)
theorem sw_ialdX {i : Int32} {x : Int32} (hd : decode cc pc = .ok (.iaload, 1)) (hin : vp_in i 5) (hx : sm_sx i.toNatClampNeg = x) (kk : sm_W own cc nL ret d r σ' (pc + 1) lv (.int x :: st) σ) : sm_W own cc nL ret d r σ' pc lv (.int i :: .ref 200 :: st) σ := by
  subst hx
  intro p l e s m args below meth c ρ D cI cF A H locs ls X hl hP hD hS
  obtain ⟨x1, x2, x3, x4, x5, x6, x7, x8, x9, x10⟩ := id X
  exact va_ti x1 x2 x9.1.2 hS hin rfl hd (kk X hl hP hD hS)
theorem sw_ialdY {i : Int32} {x : Int32} (hd : decode cc pc = .ok (.iaload, 1)) (hin : vp_in i 5) (hx : sm_sy i.toNatClampNeg = x) (kk : sm_W own cc nL ret d r σ' (pc + 1) lv (.int x :: st) σ) : sm_W own cc nL ret d r σ' pc lv (.int i :: .ref 201 :: st) σ := by
  subst hx
  intro p l e s m args below meth c ρ D cI cF A H locs ls X hl hP hD hS
  obtain ⟨x1, x2, x3, x4, x5, x6, x7, x8, x9, x10⟩ := id X
  exact va_ti x1 x2 x9.2.1.2 hS hin rfl hd (kk X hl hP hD hS)
theorem sw_alenX (hd : decode cc pc = .ok (.arraylength, 1)) (kk : sm_W own cc nL ret d r σ' (pc + 1) lv (.int (nI 5) :: st) σ) : sm_W own cc nL ret d r σ' pc lv (.ref 200 :: st) σ := by
  intro p l e s m args below meth c ρ D cI cF A H locs ls X hl hP hD hS
  obtain ⟨x1, x2, x3, x4, x5, x6, x7, x8, x9, x10⟩ := id X
  obtain ⟨cell, h1, h2, h3, h4, h5, h6, h7⟩ := x9.1.2
  exact W.alen (n := nI 5) x1 x2 (by rw [hS.2.1 (ρ 200) (Array.getElem?_eq_some_iff.mp h1).1 h7]; exact h1) h2 h5 rfl rfl hd (kk X hl hP hD hS)
theorem sw_alenY (hd : decode cc pc = .ok (.arraylength, 1)) (kk : sm_W own cc nL ret d r σ' (pc + 1) lv (.int (nI 5) :: st) σ) : sm_W own cc nL ret d r σ' pc lv (.ref 201 :: st) σ := by
  intro p l e s m args below meth c ρ D cI cF A H locs ls X hl hP hD hS
  obtain ⟨x1, x2, x3, x4, x5, x6, x7, x8, x9, x10⟩ := id X
  obtain ⟨cell, h1, h2, h3, h4, h5, h6, h7⟩ := x9.2.1.2
  exact W.alen (n := nI 5) x1 x2 (by rw [hS.2.1 (ρ 201) (Array.getElem?_eq_some_iff.mp h1).1 h7]; exact h1) h2 h5 rfl rfl hd (kk X hl hP hD hS)
/-! ends -/
theorem sw_iret {v w : Int32} (hd : decode cc pc = .ok (.ireturn, 1)) (hr : ret = some .int) (hq : r = some (.int w)) (hv : v = w) (hs : σ = σ') : sm_W own cc nL ret d r σ' pc lv [.int v] σ := by
  subst hr; subst hq; subst hv; subst hs
  intro p l e s m args below meth c ρ D cI cF A H locs ls X hl hP hD hS
  obtain ⟨x1, x2, x3, x4, x5, x6, x7, x8, x9, x10⟩ := id X
  exact W.iret x1 x2 x6 (fun t ht hW => ⟨⟨rfl, by rw [ht]; exact hP, va_K.moved hW.alike x8⟩, hS.F ht⟩) hS.2.2 hd x7
theorem sw_zret {v w : Int32} (hd : decode cc pc = .ok (.ireturn, 1)) (hr : ret = some .boolean) (hq : r = some (.int w)) (hv : v = w) (h01 : v = 0 ∨ v = 1) (hs : σ = σ') : sm_W own cc nL ret d r σ' pc lv [.int v] σ := by
  subst hr; subst hq; subst hv; subst hs
  intro p l e s m args below meth c ρ D cI cF A H locs ls X hl hP hD hS
  obtain ⟨x1, x2, x3, x4, x5, x6, x7, x8, x9, x10⟩ := id X
  exact W.zret x1 x2 x6 (by rcases h01 with rfl | rfl <;> rfl) (fun t ht hW => ⟨⟨rfl, by rw [ht]; exact hP, va_K.moved hW.alike x8⟩, hS.F ht⟩) hS.2.2 hd x7
theorem sw_vret (hd : decode cc pc = .ok (.return_, 1)) (hr : ret = none) (hq : r = none) (hs : σ = σ') : sm_W own cc nL ret d r σ' pc lv [] σ := by
  subst hr; subst hq; subst hs
  intro p l e s m args below meth c ρ D cI cF A H locs ls X hl hP hD hS
  obtain ⟨x1, x2, x3, x4, x5, x6, x7, x8, x9, x10⟩ := id X
  exact W.vret x1 x2 x6 (fun t ht hW => ⟨⟨rfl, by rw [ht]; exact hP, va_K.moved hW.alike x8⟩, hS.F ht⟩) hS.2.2 hd x7
theorem sw_lret {v w : Int64} (hd : decode cc pc = .ok (.lreturn, 1)) (hr : ret = some .long) (hq : r = some (.long w)) (hv : v = w) (hs : σ = σ') : sm_W own cc nL ret d r σ' pc lv [.long v] σ := by
  subst hr; subst hq; subst hv; subst hs
  intro p l e s m args below meth c ρ D cI cF A H locs ls X hl hP hD hS
  obtain ⟨x1, x2, x3, x4, x5, x6, x7, x8, x9, x10⟩ := id X
  exact W.lret x1 x2 x6 (fun t ht hW => ⟨⟨rfl, by rw [ht]; exact hP, va_K.moved hW.alike x8⟩, hS.F ht⟩) hS.2.2 hd x7
theorem sw_aret {k : Nat} {C : String} (hd : decode cc pc = .ok (.areturn, 1)) (hr : ret = some (.object C)) (hq : r = some (.ref k)) (hs : σ = σ') : sm_W own cc nL ret d r σ' pc lv [.ref k] σ := by
  subst hr; subst hq; subst hs
  intro p l e s m args below meth c ρ D cI cF A H locs ls X hl hP hD hS
  obtain ⟨x1, x2, x3, x4, x5, x6, x7, x8, x9, x10⟩ := id X
  exact W.aret x1 x2 x6 (Or.inl ⟨_, rfl⟩) (Or.inr ⟨_, rfl⟩) (fun t ht hW => ⟨⟨rfl, by rw [ht]; exact hP, va_K.moved hW.alike x8⟩, hS.F ht⟩) hS.2.2 hd x7
end
end
section
/-! calls -/
section
variable {p : Program} {l : Launch} {e : Env} {R : Room} {s : State} {m : MethodId} {args : Array Value} {below : List Frame} {meth : Method} {c : Code} {H : Heap} {locs : List Loc} {cells slots : Nat} {Q : State → Prop}
variable {pc : Nat} {ls : Array Slot} {rest st0 : List Value} {a : Array Value} {A0 A1 : Nat → Prop} {H0 : Heap} {free : Addr → Prop}
theorem sm_call {ρ : Nat → Nat} {D : va_G} {cI cF : ClassId} {r1 : Option Value} {σ1 : sm_St} (hr : va_Run p l e R s m args below meth c H locs cells slots 0 0 (F0 m pc ls st0) rest (sm_Q ρ D cI cF A1 r1 σ1 a) free) (hS : va_S A0 H0 H locs) (hA : ∀ q, q < H.size → A1 q → A0 q) (hf : ∀ q, free q → A0 q)
    (kk : ∀ (H1 : Heap) (locs1 : List Loc), va_P D vc6 (sm_ws ρ cI cF σ1) H1 → va_S A0 H0 H1 locs1 → W p l e R s m args below meth c H1 locs1 cells slots Q (F0 m (pc + 3) ls ((r1.map (sm_cv ρ)).toList ++ rest))) : W p l e R s m args below meth c H locs cells slots Q (F0 m pc ls st0) := by
  intro T hT X
  obtain ⟨v, st₀, t, T', L, h0, X', hL, e1, e2, ⟨⟨hv, hp, hb⟩, hz, hk⟩, st⟩ := hr T hT X
  cases hv
  rw [h0] at hz hk
  obtain ⟨t2, a1, b1⟩ := kk T'.heap (locs ++ L) (by rw [e1]; exact hp)
    ⟨Nat.le_trans hS.1 (by rw [e1]; exact hz), fun q h1 h2 => by rw [e1, hk q (Nat.lt_of_lt_of_le h1 hS.1) (fun z => h2 (hA q (Nat.lt_of_lt_of_le h1 hS.1) z))]; exact hS.2.1 q h1 h2, fun q hq => by
      rcases List.mem_append.mp hq with h | h
      · exact hS.2.2 q h
      · exact hf _ (hL q h)⟩ T' rfl X'
  exact ⟨t2, st t2 a1, b1⟩
end
theorem sm_blind {ρ : Nat → Nat} {D : va_G} {cI cF : ClassId} {σ : sm_St} {sz : Nat} {as : List Value} : FrameBlind (va_Pc as (sm_Wd ρ D cI cF σ sz)) := by
  intro a U g mk h
  obtain ⟨h0, h1, h2, h3, h4, h5⟩ := h
  exact ⟨h0, h1, h2, va_K.moved (u := U) (U := U.calling g mk a) (Vm.Alike.refl U.vm) h3, h4, sm_G.same (u := U) (U := U.calling g mk a) h5 rfl⟩
/-- what the tables say of a call: of the object's own class; static, of the same class; static, of another class of ours -/
def sm_lV (own : String) (idx : Nat) (y : MethodName) (cc : ByteArray) (nL : Nat) (ret : Option FieldType) (n : Nat) : Prop :=
  (Cond.methodLink own idx y ∈ gw ∧ Cond.instanceMethod y ∈ gw ∧ Cond.selects y.cls y y ∈ gw ∧ Cond.initialized y.cls ∈ gw ∧ Cond.code y cc nL ret ∈ gw) ∧ (y.cls ≠ "java/lang/invoke/MethodHandle" ∧ y.cls ≠ "java/lang/invoke/VarHandle" ∧ (parseMethodDescriptor y.desc).map (fun d => d.parameters.length) = some n) ∧ nL ≤ 21
def sm_lS (own : String) (idx : Nat) (y : MethodName) (cc : ByteArray) (nL : Nat) (ret : Option FieldType) (n : Nat) : Prop :=
  (Cond.methodLink own idx y ∈ gw ∧ Cond.static y ∈ gw ∧ Cond.initialized y.cls ∈ gw ∧ Cond.code y cc nL ret ∈ gw) ∧ (y.cls ≠ "java/lang/invoke/MethodHandle" ∧ y.cls ≠ "java/lang/invoke/VarHandle" ∧ (parseMethodDescriptor y.desc).map (fun d => d.parameters.length) = some n) ∧ nL ≤ 21
def sm_lN (y : MethodName) (cc : ByteArray) (nL : Nat) (ret : Option FieldType) (n : Nat) : Prop :=
  (Cond.static y ∈ gw ∧ Cond.initialized y.cls ∈ gw ∧ Cond.code y cc nL ret ∈ gw) ∧ (y.cls ≠ "java/lang/invoke/MethodHandle" ∧ y.cls ≠ "java/lang/invoke/VarHandle" ∧ (parseMethodDescriptor y.desc).map (fun d => d.parameters.length) = some n) ∧ nL ≤ 21
theorem sm_good {w : Cond} (h : w ∈ gw) : w ∈ gw ∧ ((w.onTables && w.keeps) = true ∨ ∃ ty, w = .arrayClass ty) := gw_good w h
theorem sm_gV {own : String} {idx nL n : Nat} {y : MethodName} {cc : ByteArray} {ret : Option FieldType} (h : sm_lV own idx y cc nL ret n) : GoodIn gw (wsV own idx y.cls y (.code y cc nL ret :: gw)) := by
  intro w hw
  simp only [wsV, List.cons_append, List.nil_append, List.mem_cons] at hw
  obtain ⟨⟨h1, h2, h3, h4, h5⟩, -⟩ := h
  rcases hw with rfl | rfl | rfl | rfl | rfl | hw
  · exact sm_good h1
  · exact sm_good h2
  · exact sm_good h3
  · exact sm_good h4
  · exact sm_good h5
  · exact sm_good hw
theorem sm_gS {own : String} {idx nL n : Nat} {y : MethodName} {cc : ByteArray} {ret : Option FieldType} (h : sm_lS own idx y cc nL ret n) : GoodIn gw (va_wsS own idx y (.code y cc nL ret :: gw)) := by
  intro w hw
  simp only [va_wsS, List.cons_append, List.nil_append, List.mem_cons] at hw
  obtain ⟨⟨h1, h2, h3, h4⟩, -⟩ := h
  rcases hw with rfl | rfl | rfl | rfl | hw
  · exact sm_good h1
  · exact sm_good h2
  · exact sm_good h3
  · exact sm_good h4
  · exact sm_good hw
theorem sm_gN {nL n : Nat} {y : MethodName} {cc : ByteArray} {ret : Option FieldType} (h : sm_lN y cc nL ret n) : GoodIn gw (.code y cc nL ret :: gw) := by
  intro w hw
  rcases List.mem_cons.mp hw with rfl | hw
  · exact sm_good h.1.2.2
  · exact sm_good hw
section
variable {own : String} {cc : ByteArray} {nL d : Nat} {ret : Option FieldType} {r : Option Value} {σ' σ : sm_St} {pc : Nat} {lv : List (Nat × Value)}
theorem sw_callV {y : MethodName} {cy : ByteArray} {nLy dy idx n k ci : Nat} {rety : Option FieldType} {as st stk : List Value} {r1 : Option Value} {σ1 : sm_St} (hd : decode cc pc = .ok (.invokevirtual idx, 3)) (hL : sm_lV own idx y cy nLy rety n) (hc : sm_C y cy nLy rety dy (.ref k :: as) σ r1 σ1) (ho : sm_ocl k = some ci) (hci : y.cls = (sm_c ci).1)
    (hs : stk = as.reverse ++ .ref k :: st) (hn : as.length = n) (hdd : dy + 1 ≤ d) (hst : (st.map fun v => v.category).sum ≤ 8) (kk : sm_W own cc nL ret d r σ' (pc + 3) lv (r1.toList ++ st) σ1) : sm_W own cc nL ret d r σ' pc lv stk σ := by
  subst hs
  intro p l e s m args below meth c ρ D cI cF A H locs ls X hl hP hD hS
  obtain ⟨x1, x2, x3, x4, x5, x6, x7, x8, x9, x10⟩ := id X
  have hF := sm_free hD x10 hS
  have hk := sm_ocl_lt ho
  have hM := hc l ρ D cI cF H.size
  refine sm_call (va_runV (b := ρ k) (As := as.map (sm_cv ρ)) (rest := st.map (sm_cv ρ)) ⟨x1, x2, x3, x4, x5⟩ hM (cwV n x5 (sm_gV hL) rfl rfl rfl ⟨rfl, hL.2.1⟩ ⟨hdd, ?_⟩) ⟨sm_blind, ?_, fun U hU hW => ⟨rfl, ?_⟩⟩ rfl (by rw [List.length_map]; exact hn) hl.1 ?_ (lv_room ?_) hd ⟨Nat.le_refl _, Nat.le_refl _⟩) hS (fun q _ h => hF q h) hF (fun H1 locs1 hP1 hS1 => ?_)
  · show 8 + (nLy + 11) + 40 * dy ≤ 40 * d
    have := hL.2.2
    omega
  · rw [hci]
    exact va_recv (ws := sm_ws ρ cI cF σ) x8 hP (sm_c_at ci hk.2) (q0 := k) (fs := (List.range (sm_c ci).2.2).map (sm_fv ρ σ ci k)) ((sm_ws_at hk.1).trans (by rw [sm_cel_o ho]))
  · exact ⟨by rw [hU], by rw [hU]; exact hP, va_K.moved hW.alike x8, hD.weaken (fun _ _ _ _ => trivial), by rw [hU]; exact x9.warm hW hS hF⟩
  · show (as.reverse ++ .ref k :: st).map (sm_cv ρ) = _
    rw [List.map_append, List.map_reverse]
    rfl
  · rw [List.map_map]
    refine Nat.le_trans (Nat.le_of_eq ?_) hst
    congr 2
    funext v
    exact sm_cv_cat ρ v
  · have h := kk (l := l) (e := e) (below := below) X hl hP1 (sm_D hD) hS1
    rw [List.map_append] at h
    cases r1 <;> exact h
theorem sw_callS {y : MethodName} {cy : ByteArray} {nLy dy idx n : Nat} {rety : Option FieldType} {as st stk : List Value} {r1 : Option Value} {σ1 : sm_St} (hd : decode cc pc = .ok (.invokestatic idx, 3)) (hL : sm_lS own idx y cy nLy rety n) (hc : sm_C y cy nLy rety dy as σ r1 σ1)
    (hs : stk = as.reverse ++ st) (hn : as.length = n) (hdd : dy + 1 ≤ d) (hst : (st.map fun v => v.category).sum ≤ 8) (kk : sm_W own cc nL ret d r σ' (pc + 3) lv (r1.toList ++ st) σ1) : sm_W own cc nL ret d r σ' pc lv stk σ := by
  subst hs
  intro p l e s m args below meth c ρ D cI cF A H locs ls X hl hP hD hS
  obtain ⟨x1, x2, x3, x4, x5, x6, x7, x8, x9, x10⟩ := id X
  have hF := sm_free hD x10 hS
  have hM := hc l ρ D cI cF H.size
  refine sm_call (va_runS (As := as.map (sm_cv ρ)) (rest := st.map (sm_cv ρ)) ⟨x1, x2, x3, x4, x5⟩ hM (va_cwS n x5 (sm_gS hL) rfl rfl rfl hL.2.1 ⟨hdd, ?_⟩) ⟨sm_blind, fun U hU hW => ⟨rfl, ?_⟩⟩ rfl (by rw [List.length_map]; exact hn) hl.1 ?_ (lv_room ?_) hd ⟨Nat.le_refl _, Nat.le_refl _⟩) hS (fun q _ h => hF q h) hF (fun H1 locs1 hP1 hS1 => ?_)
  · show 8 + (nLy + 11) + 40 * dy ≤ 40 * d
    have := hL.2.2
    omega
  · exact ⟨by rw [hU], by rw [hU]; exact hP, va_K.moved hW.alike x8, hD.weaken (fun _ _ _ _ => trivial), by rw [hU]; exact x9.warm hW hS hF⟩
  · show (as.reverse ++ st).map (sm_cv ρ) = _
    rw [List.map_append, List.map_reverse]
  · rw [List.map_map]
    refine Nat.le_trans (Nat.le_of_eq ?_) hst
    congr 2
    funext v
    exact sm_cv_cat ρ v
  · have h := kk (l := l) (e := e) (below := below) X hl hP1 (sm_D hD) hS1
    rw [List.map_append] at h
    cases r1 <;> exact h
/-- a static method of a nest mate, private there -/
theorem sw_callN {y : MethodName} {cy : ByteArray} {nLy dy idx n : Nat} {rety : Option FieldType} {as st stk : List Value} {r1 : Option Value} {σ1 : sm_St} (hd : decode cc pc = .ok (.invokestatic idx, 3)) (hL : sm_lN y cy nLy rety n) (hc : sm_C y cy nLy rety dy as σ r1 σ1) (hG : ∀ {ρ : Nat → Nat} {A : Nat → Prop} {U : State} {H : Heap}, sm_G ρ A U H → va_Nw (.methodLinkNest own idx y RX5) U)
    (hs : stk = as.reverse ++ st) (hn : as.length = n) (hdd : dy + 1 ≤ d) (hst : (st.map fun v => v.category).sum ≤ 8) (kk : sm_W own cc nL ret d r σ' (pc + 3) lv (r1.toList ++ st) σ1) : sm_W own cc nL ret d r σ' pc lv stk σ := by
  subst hs
  intro p l e s m args below meth c ρ D cI cF A H locs ls X hl hP hD hS
  obtain ⟨x1, x2, x3, x4, x5, x6, x7, x8, x9, x10⟩ := id X
  have hF := sm_free hD x10 hS
  have hM := hc l ρ D cI cF H.size
  refine sm_call (va_runSN (As := as.map (sm_cv ρ)) (rest := st.map (sm_cv ρ)) ⟨x1, x2, x3, x4, x5⟩ hM ⟨va_cnB n x5 (sm_gN hL) rfl rfl rfl (hG x9) (x5 _ hL.1.2.1) hL.2.1 ⟨hdd, ?_⟩, x5 _ hL.1.1, trivial⟩ ⟨sm_blind, fun U hU hW => ⟨rfl, ?_⟩⟩ rfl (by rw [List.length_map]; exact hn) hl.1 ?_ (lv_room ?_) hd ⟨Nat.le_refl _, Nat.le_refl _⟩) hS (fun q _ h => hF q h) hF (fun H1 locs1 hP1 hS1 => ?_)
  · show 8 + (nLy + 11) + 40 * dy ≤ 40 * d
    have := hL.2.2
    omega
  · exact ⟨by rw [hU], by rw [hU]; exact hP, va_K.moved hW.alike x8, hD.weaken (fun _ _ _ _ => trivial), by rw [hU]; exact x9.warm hW hS hF⟩
  · show (as.reverse ++ st).map (sm_cv ρ) = _
    rw [List.map_append, List.map_reverse]
  · rw [List.map_map]
    refine Nat.le_trans (Nat.le_of_eq ?_) hst
    congr 2
    funext v
    exact sm_cv_cat ρ v
  · have h := kk (l := l) (e := e) (below := below) X hl hP1 (sm_D hD) hS1
    rw [List.map_append] at h
    cases r1 <;> exact h
theorem sm_sum {ρ : Nat → Nat} {st : List Value} (h : (st.map fun v => v.category).sum ≤ 8) : ((st.map (sm_cv ρ)).map fun v => v.category).sum ≤ 8 := by
  rw [List.map_map]
  refine Nat.le_trans (Nat.le_of_eq ?_) h
  congr 2
  funext v
  exact sm_cv_cat ρ v
/-! the JDK's: abs, min, max, arraycopy -/
def sm_lJ (own : String) (idx : Nat) (y : MethodName) (cls : String) (cc : ByteArray) (nL : Nat) : Prop := Cond.methodLink own idx y ∈ gw ∧ Cond.static y ∈ gw ∧ Cond.initialized cls ∈ gw ∧ Cond.code y cc nL (some .int) ∈ gw
theorem sw_abs {idx : Nat} {st : List Value} {x : Int32} (hd : decode cc pc = .ok (.invokestatic idx, 3)) (hL : sm_lJ own idx Lib.Math.abs.name "java/lang/Math" Lib.Math.abs.code 1) (hdd : 1 ≤ d) (hst : (st.map fun v => v.category).sum ≤ 8) (kk : sm_W own cc nL ret d r σ' (pc + 3) lv (.int (if 0 ≤ x then x else 0 - x) :: st) σ) : sm_W own cc nL ret d r σ' pc lv (.int x :: st) σ := by
  intro p l e s m args below meth c ρ D cI cF A H locs ls X hl hP hD hS
  obtain ⟨x1, x2, x3, x4, x5, x6, x7, x8, x9, x10⟩ := id X
  have h8 := sm_sum (ρ := ρ) hst
  exact va_mabs x1 x2 (by rw [x3]; exact hl.1.symm) x4 (x5 _ hL.1) (x5 _ hL.2.1) (x5 _ hL.2.2.1) (x5 _ hL.2.2.2) hdd (by show _ ≤ 40 * d; omega) (Nat.le_refl _) (Nat.le_refl _) hd (kk X hl hP hD hS)
theorem sw_min {idx : Nat} {st : List Value} {x y : Int32} (hd : decode cc pc = .ok (.invokestatic idx, 3)) (hL : sm_lJ own idx Lib.Math.min.name "java/lang/Math" Lib.Math.min.code 2) (hdd : 1 ≤ d) (hst : (st.map fun v => v.category).sum ≤ 8) (kk : sm_W own cc nL ret d r σ' (pc + 3) lv (.int (if y < x then y else x) :: st) σ) : sm_W own cc nL ret d r σ' pc lv (.int y :: .int x :: st) σ := by
  intro p l e s m args below meth c ρ D cI cF A H locs ls X hl hP hD hS
  obtain ⟨x1, x2, x3, x4, x5, x6, x7, x8, x9, x10⟩ := id X
  have h8 := sm_sum (ρ := ρ) hst
  exact va_mmin x1 x2 (by rw [x3]; exact hl.1.symm) x4 (x5 _ hL.1) (x5 _ hL.2.1) (x5 _ hL.2.2.1) (x5 _ hL.2.2.2) hdd (by show _ ≤ 40 * d; omega) (Nat.le_refl _) (Nat.le_refl _) hd (kk X hl hP hD hS)
theorem sw_max {idx : Nat} {st : List Value} {x y : Int32} (hd : decode cc pc = .ok (.invokestatic idx, 3)) (hL : sm_lJ own idx Lib.Math.max.name "java/lang/Math" Lib.Math.max.code 2) (hdd : 1 ≤ d) (hst : (st.map fun v => v.category).sum ≤ 8) (kk : sm_W own cc nL ret d r σ' (pc + 3) lv (.int (if x < y then y else x) :: st) σ) : sm_W own cc nL ret d r σ' pc lv (.int y :: .int x :: st) σ := by
  intro p l e s m args below meth c ρ D cI cF A H locs ls X hl hP hD hS
  obtain ⟨x1, x2, x3, x4, x5, x6, x7, x8, x9, x10⟩ := id X
  have h8 := sm_sum (ρ := ρ) hst
  exact va_mmax x1 x2 (by rw [x3]; exact hl.1.symm) x4 (x5 _ hL.1) (x5 _ hL.2.1) (x5 _ hL.2.2.1) (x5 _ hL.2.2.2) hdd (by show _ ≤ 40 * d; omega) (Nat.le_refl _) (Nat.le_refl _) hd (kk X hl hP hD hS)
theorem sw_copy {idx a0 a1 n0 n1 : Nat} {n : Int32} {st : List Value} (hd : decode cc pc = .ok (.invokestatic idx, 3)) (hL : Cond.methodLink own idx arraycopyName ∈ gw ∧ Cond.native arraycopyName ∈ gw ∧ Cond.static arraycopyName ∈ gw ∧ Cond.initialized "java/lang/System" ∈ gw) (hdd : 1 ≤ d) (hst : (st.map fun v => v.category).sum ≤ 8)
    (h0 : sm_aln a0 = some n0) (h1 : sm_aln a1 = some n1) (hn : ¬ n < 0) (hn0 : n.toNatClampNeg ≤ n0) (hn1 : n.toNatClampNeg ≤ n1) (kk : sm_W own cc nL ret d r σ' (pc + 3) lv st (sm_row σ a1 (va_cpy (σ a0) (σ a1) 0 0 n.toNatClampNeg))) : sm_W own cc nL ret d r σ' pc lv (.int n :: .int 0 :: .ref a1 :: .int 0 :: .ref a0 :: st) σ := by
  intro p l e s m args below meth c ρ D cI cF A H locs ls X hl hP hD hS
  obtain ⟨x1, x2, x3, x4, x5, x6, x7, x8, x9, x10⟩ := id X
  have h8 := sm_sum (ρ := ρ) hst
  refine va_copyi (ws := sm_ws ρ cI cF σ) (c0 := cI) (c1 := cI) (n0 := n0) (n1 := n1) (f := σ a0) (g := σ a1) (ty := .int) (sp := 0) (dp := 0) x1 x2 (by rw [x3]; exact hl.1.symm) x4 (x5 _ hL.1) (x5 _ hL.2.1) (x5 _ hL.2.2.1) (x5 _ hL.2.2.2) x8 hP hD hS a0 a1 0 0 ((sm_ws_at (sm_aln_lt h0).1).trans (by rw [sm_cel_a h0])) ((sm_ws_at (sm_aln_lt h1).1).trans (by rw [sm_cel_a h1])) rfl rfl rfl (by decide) (by decide) hn (by rw [sb_cl0]; omega) (by rw [sb_cl0]; omega) (fun i _ => rfl) hdd ?_ hd (fun H1 locs1 hP1 hD1 hS1 => ?_)
  · have h9 : nativeFrameWords "java/lang/System" "arraycopy" 5 + 11 ≤ 30 := by decide +kernel
    show _ ≤ 40 * d
    omega
  · rw [sm_ws_row h1, sb_cl0] at hP1 hD1
    exact kk X hl hP1 hD1 hS1
end
end
section
/-! what the tables say of each entry of the constant pools, by place -/
theorem fl_X4_9 : sm_fl RX4 9 3 0 := ⟨by decide, by decide, (gw_mem (i := 61) (by decide +kernel) rfl)⟩
theorem fl_X4_15 : sm_fl RX4 15 3 1 := ⟨by decide, by decide, (gw_mem (i := 62) (by decide +kernel) rfl)⟩
theorem fl_X5_72 : sm_fl RX5 72 3 2 := ⟨by decide, by decide, (gw_mem (i := 63) (by decide +kernel) rfl)⟩
theorem fl_X4_18 : sm_fl RX4 18 3 2 := ⟨by decide, by decide, (gw_mem (i := 64) (by decide +kernel) rfl)⟩
theorem fl_X4_33 : sm_fl RX4 33 3 3 := ⟨by decide, by decide, (gw_mem (i := 65) (by decide +kernel) rfl)⟩
theorem fl_X0_33 : sm_fl RX0 33 0 0 := ⟨by decide, by decide, (gw_mem (i := 82) (by decide +kernel) rfl)⟩
theorem fl_X5_181 : sm_fl RX5 181 0 0 := ⟨by decide, by decide, (gw_mem (i := 83) (by decide +kernel) rfl)⟩
theorem fl_X0_37 : sm_fl RX0 37 0 1 := ⟨by decide, by decide, (gw_mem (i := 84) (by decide +kernel) rfl)⟩
theorem fl_X5_184 : sm_fl RX5 184 0 1 := ⟨by decide, by decide, (gw_mem (i := 85) (by decide +kernel) rfl)⟩
theorem fl_X0_40 : sm_fl RX0 40 0 2 := ⟨by decide, by decide, (gw_mem (i := 86) (by decide +kernel) rfl)⟩
theorem fl_X4_83 : sm_fl RX4 83 0 2 := ⟨by decide, by decide, (gw_mem (i := 87) (by decide +kernel) rfl)⟩
theorem fl_X5_243 : sm_fl RX5 243 0 2 := ⟨by decide, by decide, (gw_mem (i := 88) (by decide +kernel) rfl)⟩
theorem fl_X0_43 : sm_fl RX0 43 0 3 := ⟨by decide, by decide, (gw_mem (i := 89) (by decide +kernel) rfl)⟩
theorem fl_X4_86 : sm_fl RX4 86 0 3 := ⟨by decide, by decide, (gw_mem (i := 90) (by decide +kernel) rfl)⟩
theorem fl_X5_158 : sm_fl RX5 158 0 3 := ⟨by decide, by decide, (gw_mem (i := 91) (by decide +kernel) rfl)⟩
theorem fl_X0_46 : sm_fl RX0 46 0 4 := ⟨by decide, by decide, (gw_mem (i := 92) (by decide +kernel) rfl)⟩
theorem fl_X4_89 : sm_fl RX4 89 0 4 := ⟨by decide, by decide, (gw_mem (i := 93) (by decide +kernel) rfl)⟩
theorem fl_X5_155 : sm_fl RX5 155 0 4 := ⟨by decide, by decide, (gw_mem (i := 94) (by decide +kernel) rfl)⟩
theorem fl_X0_49 : sm_fl RX0 49 0 5 := ⟨by decide, by decide, (gw_mem (i := 95) (by decide +kernel) rfl)⟩
theorem fl_X5_146 : sm_fl RX5 146 0 5 := ⟨by decide, by decide, (gw_mem (i := 96) (by decide +kernel) rfl)⟩
theorem fl_X0_52 : sm_fl RX0 52 0 6 := ⟨by decide, by decide, (gw_mem (i := 97) (by decide +kernel) rfl)⟩
theorem fl_X5_79 : sm_fl RX5 79 0 6 := ⟨by decide, by decide, (gw_mem (i := 98) (by decide +kernel) rfl)⟩
theorem fl_X4_92 : sm_fl RX4 92 0 6 := ⟨by decide, by decide, (gw_mem (i := 99) (by decide +kernel) rfl)⟩
theorem fl_X0_55 : sm_fl RX0 55 0 7 := ⟨by decide, by decide, (gw_mem (i := 100) (by decide +kernel) rfl)⟩
theorem fl_X5_82 : sm_fl RX5 82 0 7 := ⟨by decide, by decide, (gw_mem (i := 101) (by decide +kernel) rfl)⟩
theorem fl_X4_99 : sm_fl RX4 99 0 7 := ⟨by decide, by decide, (gw_mem (i := 102) (by decide +kernel) rfl)⟩
theorem fl_X5_140 : sm_fl RX5 140 0 8 := ⟨by decide, by decide, (gw_mem (i := 103) (by decide +kernel) rfl)⟩
theorem fl_X0_96 : sm_fl RX0 96 0 8 := ⟨by decide, by decide, (gw_mem (i := 104) (by decide +kernel) rfl)⟩
theorem fl_X5_143 : sm_fl RX5 143 0 9 := ⟨by decide, by decide, (gw_mem (i := 105) (by decide +kernel) rfl)⟩
theorem fl_X0_102 : sm_fl RX0 102 0 9 := ⟨by decide, by decide, (gw_mem (i := 106) (by decide +kernel) rfl)⟩
theorem fl_X0_9 : sm_fl RX0 9 0 10 := ⟨by decide, by decide, (gw_mem (i := 107) (by decide +kernel) rfl)⟩
theorem fl_X5_96 : sm_fl RX5 96 0 10 := ⟨by decide, by decide, (gw_mem (i := 108) (by decide +kernel) rfl)⟩
theorem fl_X0_15 : sm_fl RX0 15 0 11 := ⟨by decide, by decide, (gw_mem (i := 109) (by decide +kernel) rfl)⟩
theorem fl_X5_105 : sm_fl RX5 105 0 11 := ⟨by decide, by decide, (gw_mem (i := 110) (by decide +kernel) rfl)⟩
theorem fl_X0_18 : sm_fl RX0 18 0 12 := ⟨by decide, by decide, (gw_mem (i := 111) (by decide +kernel) rfl)⟩
theorem fl_X5_108 : sm_fl RX5 108 0 12 := ⟨by decide, by decide, (gw_mem (i := 112) (by decide +kernel) rfl)⟩
theorem fl_X0_21 : sm_fl RX0 21 0 13 := ⟨by decide, by decide, (gw_mem (i := 113) (by decide +kernel) rfl)⟩
theorem fl_X5_111 : sm_fl RX5 111 0 13 := ⟨by decide, by decide, (gw_mem (i := 114) (by decide +kernel) rfl)⟩
theorem fl_X0_24 : sm_fl RX0 24 0 14 := ⟨by decide, by decide, (gw_mem (i := 115) (by decide +kernel) rfl)⟩
theorem fl_X5_125 : sm_fl RX5 125 0 14 := ⟨by decide, by decide, (gw_mem (i := 116) (by decide +kernel) rfl)⟩
theorem fl_X0_27 : sm_fl RX0 27 0 15 := ⟨by decide, by decide, (gw_mem (i := 117) (by decide +kernel) rfl)⟩
theorem fl_X5_128 : sm_fl RX5 128 0 15 := ⟨by decide, by decide, (gw_mem (i := 118) (by decide +kernel) rfl)⟩
theorem fl_X0_30 : sm_fl RX0 30 0 16 := ⟨by decide, by decide, (gw_mem (i := 119) (by decide +kernel) rfl)⟩
theorem fl_X5_131 : sm_fl RX5 131 0 16 := ⟨by decide, by decide, (gw_mem (i := 120) (by decide +kernel) rfl)⟩
theorem fl_X3_9 : sm_fl RX3 9 2 0 := ⟨by decide, by decide, (gw_mem (i := 162) (by decide +kernel) rfl)⟩
theorem fl_X3_15 : sm_fl RX3 15 2 1 := ⟨by decide, by decide, (gw_mem (i := 163) (by decide +kernel) rfl)⟩
theorem fl_X3_18 : sm_fl RX3 18 2 2 := ⟨by decide, by decide, (gw_mem (i := 164) (by decide +kernel) rfl)⟩
theorem fl_X3_21 : sm_fl RX3 21 2 3 := ⟨by decide, by decide, (gw_mem (i := 165) (by decide +kernel) rfl)⟩
theorem fl_X5_89 : sm_fl RX5 89 2 3 := ⟨by decide, by decide, (gw_mem (i := 166) (by decide +kernel) rfl)⟩
theorem fl_X1_15 : sm_fl RX1 15 1 0 := ⟨by decide, by decide, (gw_mem (i := 188) (by decide +kernel) rfl)⟩
theorem fl_X1_34 : sm_fl RX1 34 1 1 := ⟨by decide, by decide, (gw_mem (i := 189) (by decide +kernel) rfl)⟩
theorem fl_X5_92 : sm_fl RX5 92 1 1 := ⟨by decide, by decide, (gw_mem (i := 190) (by decide +kernel) rfl)⟩
theorem fl_X1_22 : sm_fl RX1 22 1 2 := ⟨by decide, by decide, (gw_mem (i := 191) (by decide +kernel) rfl)⟩
theorem fl_X5_10 : sm_fl RX5 10 4 0 := ⟨by decide, by decide, (gw_mem (i := 314) (by decide +kernel) rfl)⟩
theorem fl_X5_19 : sm_fl RX5 19 4 1 := ⟨by decide, by decide, (gw_mem (i := 315) (by decide +kernel) rfl)⟩
theorem fl_X5_23 : sm_fl RX5 23 4 2 := ⟨by decide, by decide, (gw_mem (i := 316) (by decide +kernel) rfl)⟩
theorem fl_X5_29 : sm_fl RX5 29 4 3 := ⟨by decide, by decide, (gw_mem (i := 317) (by decide +kernel) rfl)⟩
theorem fl_X5_38 : sm_fl RX5 38 4 4 := ⟨by decide, by decide, (gw_mem (i := 318) (by decide +kernel) rfl)⟩
theorem fl_X5_42 : sm_fl RX5 42 4 5 := ⟨by decide, by decide, (gw_mem (i := 319) (by decide +kernel) rfl)⟩
theorem fl_X5_45 : sm_fl RX5 45 4 6 := ⟨by decide, by decide, (gw_mem (i := 320) (by decide +kernel) rfl)⟩
theorem fl_X5_49 : sm_fl RX5 49 4 7 := ⟨by decide, by decide, (gw_mem (i := 321) (by decide +kernel) rfl)⟩
theorem fs_X0_99 : Cond.fieldLink RX0 99 RX0 "STEP_X" "[I" ∈ gw := (gw_mem (i := 422) (by decide +kernel) rfl)
theorem fs_X0_105 : Cond.fieldLink RX0 105 RX0 "STEP_Y" "[I" ∈ gw := (gw_mem (i := 424) (by decide +kernel) rfl)
theorem fl_X6_84 : sm_fl RX6 84 5 0 := ⟨by decide, by decide, (gw_mem (i := 627) (by decide +kernel) rfl)⟩
theorem fl_X6_91 : sm_fl RX6 91 5 1 := ⟨by decide, by decide, (gw_mem (i := 628) (by decide +kernel) rfl)⟩
theorem fl_X6_68 : sm_fl RX6 68 5 2 := ⟨by decide, by decide, (gw_mem (i := 629) (by decide +kernel) rfl)⟩
theorem fl_X6_9 : sm_fl RX6 9 5 3 := ⟨by decide, by decide, (gw_mem (i := 630) (by decide +kernel) rfl)⟩
theorem fl_X6_13 : sm_fl RX6 13 5 4 := ⟨by decide, by decide, (gw_mem (i := 631) (by decide +kernel) rfl)⟩
theorem fl_X6_16 : sm_fl RX6 16 5 5 := ⟨by decide, by decide, (gw_mem (i := 632) (by decide +kernel) rfl)⟩
theorem fl_X6_137 : sm_fl RX6 137 5 6 := ⟨by decide, by decide, (gw_mem (i := 633) (by decide +kernel) rfl)⟩
theorem fl_X6_61 : sm_fl RX6 61 5 7 := ⟨by decide, by decide, (gw_mem (i := 634) (by decide +kernel) rfl)⟩
theorem fl_X6_65 : sm_fl RX6 65 5 8 := ⟨by decide, by decide, (gw_mem (i := 635) (by decide +kernel) rfl)⟩
theorem fl_X6_71 : sm_fl RX6 71 5 9 := ⟨by decide, by decide, (gw_mem (i := 636) (by decide +kernel) rfl)⟩
theorem fl_X6_74 : sm_fl RX6 74 5 10 := ⟨by decide, by decide, (gw_mem (i := 637) (by decide +kernel) rfl)⟩
theorem fl_X6_19 : sm_fl RX6 19 5 11 := ⟨by decide, by decide, (gw_mem (i := 638) (by decide +kernel) rfl)⟩
theorem fl_X6_22 : sm_fl RX6 22 5 12 := ⟨by decide, by decide, (gw_mem (i := 639) (by decide +kernel) rfl)⟩
theorem fl_X6_25 : sm_fl RX6 25 5 13 := ⟨by decide, by decide, (gw_mem (i := 640) (by decide +kernel) rfl)⟩
theorem fl_X6_28 : sm_fl RX6 28 5 14 := ⟨by decide, by decide, (gw_mem (i := 641) (by decide +kernel) rfl)⟩
theorem fl_X6_140 : sm_fl RX6 140 5 15 := ⟨by decide, by decide, (gw_mem (i := 642) (by decide +kernel) rfl)⟩
theorem fl_X6_31 : sm_fl RX6 31 5 16 := ⟨by decide, by decide, (gw_mem (i := 643) (by decide +kernel) rfl)⟩
theorem fl_X6_34 : sm_fl RX6 34 5 17 := ⟨by decide, by decide, (gw_mem (i := 644) (by decide +kernel) rfl)⟩
theorem fl_X6_37 : sm_fl RX6 37 5 18 := ⟨by decide, by decide, (gw_mem (i := 645) (by decide +kernel) rfl)⟩
theorem fl_X6_40 : sm_fl RX6 40 5 19 := ⟨by decide, by decide, (gw_mem (i := 646) (by decide +kernel) rfl)⟩
theorem fl_X6_98 : sm_fl RX6 98 5 20 := ⟨by decide, by decide, (gw_mem (i := 647) (by decide +kernel) rfl)⟩
theorem fl_X6_101 : sm_fl RX6 101 5 21 := ⟨by decide, by decide, (gw_mem (i := 648) (by decide +kernel) rfl)⟩
theorem fl_X6_125 : sm_fl RX6 125 5 22 := ⟨by decide, by decide, (gw_mem (i := 649) (by decide +kernel) rfl)⟩
theorem fl_X6_128 : sm_fl RX6 128 5 23 := ⟨by decide, by decide, (gw_mem (i := 650) (by decide +kernel) rfl)⟩
theorem fl_X6_43 : sm_fl RX6 43 5 24 := ⟨by decide, by decide, (gw_mem (i := 651) (by decide +kernel) rfl)⟩
theorem fl_X6_46 : sm_fl RX6 46 5 25 := ⟨by decide, by decide, (gw_mem (i := 652) (by decide +kernel) rfl)⟩
theorem fl_X6_49 : sm_fl RX6 49 5 26 := ⟨by decide, by decide, (gw_mem (i := 653) (by decide +kernel) rfl)⟩
theorem fl_X6_112 : sm_fl RX6 112 5 27 := ⟨by decide, by decide, (gw_mem (i := 654) (by decide +kernel) rfl)⟩
theorem fl_X6_153 : sm_fl RX6 153 5 28 := ⟨by decide, by decide, (gw_mem (i := 655) (by decide +kernel) rfl)⟩
theorem fl_X6_169 : sm_fl RX6 169 5 29 := ⟨by decide, by decide, (gw_mem (i := 656) (by decide +kernel) rfl)⟩
theorem fl_X6_52 : sm_fl RX6 52 5 30 := ⟨by decide, by decide, (gw_mem (i := 657) (by decide +kernel) rfl)⟩
theorem fl_X6_143 : sm_fl RX6 143 5 31 := ⟨by decide, by decide, (gw_mem (i := 658) (by decide +kernel) rfl)⟩
theorem fl_X6_55 : sm_fl RX6 55 5 32 := ⟨by decide, by decide, (gw_mem (i := 659) (by decide +kernel) rfl)⟩
theorem fl_X6_58 : sm_fl RX6 58 5 33 := ⟨by decide, by decide, (gw_mem (i := 660) (by decide +kernel) rfl)⟩
theorem fl_X6_146 : sm_fl RX6 146 5 34 := ⟨by decide, by decide, (gw_mem (i := 661) (by decide +kernel) rfl)⟩
theorem fi_0_0 : sm_fi 0 0 := ⟨rfl, by decide +kernel⟩
theorem fi_0_1 : sm_fi 0 1 := ⟨rfl, by decide +kernel⟩
theorem fi_0_2 : sm_fi 0 2 := ⟨rfl, by decide +kernel⟩
theorem fi_0_3 : sm_fi 0 3 := ⟨rfl, by decide +kernel⟩
theorem fi_0_4 : sm_fi 0 4 := ⟨rfl, by decide +kernel⟩
theorem fi_0_5 : sm_fi 0 5 := ⟨rfl, by decide +kernel⟩
theorem fi_0_6 : sm_fi 0 6 := ⟨rfl, by decide +kernel⟩
theorem fi_0_7 : sm_fi 0 7 := ⟨rfl, by decide +kernel⟩
theorem fi_0_8 : sm_fi 0 8 := ⟨rfl, by decide +kernel⟩
theorem fi_0_9 : sm_fi 0 9 := ⟨rfl, by decide +kernel⟩
theorem fi_1_1 : sm_fi 1 1 := ⟨rfl, by decide +kernel⟩
theorem fi_1_2 : sm_fi 1 2 := ⟨rfl, by decide +kernel⟩
theorem fi_2_3 : sm_fi 2 3 := ⟨rfl, by decide +kernel⟩
theorem fi_3_2 : sm_fi 3 2 := ⟨rfl, by decide +kernel⟩
theorem fi_3_3 : sm_fi 3 3 := ⟨rfl, by decide +kernel⟩
theorem fi_5_0 : sm_fi 5 0 := ⟨rfl, by decide +kernel⟩
theorem fi_5_1 : sm_fi 5 1 := ⟨rfl, by decide +kernel⟩
theorem fi_5_2 : sm_fi 5 2 := ⟨rfl, by decide +kernel⟩
theorem fi_5_6 : sm_fi 5 6 := ⟨rfl, by decide +kernel⟩
theorem fi_5_7 : sm_fi 5 7 := ⟨rfl, by decide +kernel⟩
theorem fi_5_8 : sm_fi 5 8 := ⟨rfl, by decide +kernel⟩
theorem fi_5_9 : sm_fi 5 9 := ⟨rfl, by decide +kernel⟩
theorem fi_5_10 : sm_fi 5 10 := ⟨rfl, by decide +kernel⟩
theorem fi_5_15 : sm_fi 5 15 := ⟨rfl, by decide +kernel⟩
theorem fi_5_20 : sm_fi 5 20 := ⟨rfl, by decide +kernel⟩
theorem fi_5_21 : sm_fi 5 21 := ⟨rfl, by decide +kernel⟩
theorem fi_5_22 : sm_fi 5 22 := ⟨rfl, by decide +kernel⟩
theorem fi_5_23 : sm_fi 5 23 := ⟨rfl, by decide +kernel⟩
theorem fi_5_27 : sm_fi 5 27 := ⟨rfl, by decide +kernel⟩
theorem fi_5_28 : sm_fi 5 28 := ⟨rfl, by decide +kernel⟩
theorem fi_5_29 : sm_fi 5 29 := ⟨rfl, by decide +kernel⟩
theorem fi_5_31 : sm_fi 5 31 := ⟨rfl, by decide +kernel⟩
theorem fi_5_34 : sm_fi 5 34 := ⟨rfl, by decide +kernel⟩
theorem lJ_X1_7 : sm_lJ RX1 7 Lib.Math.max.name "java/lang/Math" Lib.Math.max.code 2 := ⟨(gw_mem (i := 182) (by decide +kernel) rfl), (gw_mem (i := 183) (by decide +kernel) rfl), (gw_mem (i := 37) (by decide +kernel) rfl), (gw_mem (i := 184) (by decide +kernel) rfl)⟩
theorem lV_X5_54 : sm_lV RX5 54 yJ0_length_8abf5 cJ0_length_8abf5 1 (some .int) 0 := ⟨⟨(gw_mem (i := 200) (by decide +kernel) rfl), (gw_mem (i := 201) (by decide +kernel) rfl), (gw_mem (i := 202) (by decide +kernel) rfl), (gw_mem (i := 38) (by decide +kernel) rfl), (gw_mem (i := 203) (by decide +kernel) rfl)⟩, ⟨by decide +kernel, by decide +kernel, by decide +kernel⟩, by decide⟩
theorem lV_J0_335 : sm_lV RJ0 335 yJ0_coder_7d493 cJ0_coder_7d493 1 (some .byte) 0 := ⟨⟨(gw_mem (i := 204) (by decide +kernel) rfl), (gw_mem (i := 205) (by decide +kernel) rfl), (gw_mem (i := 206) (by decide +kernel) rfl), (gw_mem (i := 38) (by decide +kernel) rfl), (gw_mem (i := 207) (by decide +kernel) rfl)⟩, ⟨by decide +kernel, by decide +kernel, by decide +kernel⟩, by decide⟩
theorem lV_X5_60 : sm_lV RX5 60 yJ0_charAt_5068e cJ0_charAt_5068e 2 (some .char) 1 := ⟨⟨(gw_mem (i := 210) (by decide +kernel) rfl), (gw_mem (i := 211) (by decide +kernel) rfl), (gw_mem (i := 212) (by decide +kernel) rfl), (gw_mem (i := 38) (by decide +kernel) rfl), (gw_mem (i := 213) (by decide +kernel) rfl)⟩, ⟨by decide +kernel, by decide +kernel, by decide +kernel⟩, by decide⟩
theorem lV_J0_492 : sm_lV RJ0 492 yJ0_isLatin1_aae02 cJ0_isLatin1_aae02 1 (some .boolean) 0 := ⟨⟨(gw_mem (i := 214) (by decide +kernel) rfl), (gw_mem (i := 215) (by decide +kernel) rfl), (gw_mem (i := 216) (by decide +kernel) rfl), (gw_mem (i := 38) (by decide +kernel) rfl), (gw_mem (i := 217) (by decide +kernel) rfl)⟩, ⟨by decide +kernel, by decide +kernel, by decide +kernel⟩, by decide⟩
theorem lS_J0_495 : sm_lS RJ0 495 yJ1_charAt_3b067 cJ1_charAt_3b067 2 (some .char) 2 := ⟨⟨(gw_mem (i := 218) (by decide +kernel) rfl), (gw_mem (i := 219) (by decide +kernel) rfl), (gw_mem (i := 39) (by decide +kernel) rfl), (gw_mem (i := 220) (by decide +kernel) rfl)⟩, ⟨by decide +kernel, by decide +kernel, by decide +kernel⟩, by decide⟩
theorem lS_J1_9 : sm_lS RJ1 9 yJ0_checkIndex_df160 cJ0_checkIndex_df160 2 none 2 := ⟨⟨(gw_mem (i := 221) (by decide +kernel) rfl), (gw_mem (i := 222) (by decide +kernel) rfl), (gw_mem (i := 38) (by decide +kernel) rfl), (gw_mem (i := 223) (by decide +kernel) rfl)⟩, ⟨by decide +kernel, by decide +kernel, by decide +kernel⟩, by decide⟩
theorem lS_J0_1059 : sm_lS RJ0 1059 yJ3_checkIndex_8e157 cJ3_checkIndex_8e157 3 (some .int) 3 := ⟨⟨(gw_mem (i := 226) (by decide +kernel) rfl), (gw_mem (i := 227) (by decide +kernel) rfl), (gw_mem (i := 40) (by decide +kernel) rfl), (gw_mem (i := 228) (by decide +kernel) rfl)⟩, ⟨by decide +kernel, by decide +kernel, by decide +kernel⟩, by decide⟩
theorem lS_J0_498 : sm_lS RJ0 498 yJ2_charAt_3b067 cJ2_charAt_3b067 2 (some .char) 2 := ⟨⟨(gw_mem (i := 229) (by decide +kernel) rfl), (gw_mem (i := 230) (by decide +kernel) rfl), (gw_mem (i := 41) (by decide +kernel) rfl), (gw_mem (i := 231) (by decide +kernel) rfl)⟩, ⟨by decide +kernel, by decide +kernel, by decide +kernel⟩, by decide⟩
theorem lS_J2_67 : sm_lS RJ2 67 yJ2_checkIndex_2214a cJ2_checkIndex_2214a 2 none 2 := ⟨⟨(gw_mem (i := 232) (by decide +kernel) rfl), (gw_mem (i := 233) (by decide +kernel) rfl), (gw_mem (i := 41) (by decide +kernel) rfl), (gw_mem (i := 234) (by decide +kernel) rfl)⟩, ⟨by decide +kernel, by decide +kernel, by decide +kernel⟩, by decide⟩
theorem lS_J2_48 : sm_lS RJ2 48 yJ2_length_9d52b cJ2_length_9d52b 1 (some .int) 1 := ⟨⟨(gw_mem (i := 235) (by decide +kernel) rfl), (gw_mem (i := 236) (by decide +kernel) rfl), (gw_mem (i := 41) (by decide +kernel) rfl), (gw_mem (i := 237) (by decide +kernel) rfl)⟩, ⟨by decide +kernel, by decide +kernel, by decide +kernel⟩, by decide⟩
theorem lS_J2_414 : sm_lS RJ2 414 yJ0_checkIndex_df160 cJ0_checkIndex_df160 2 none 2 := ⟨⟨(gw_mem (i := 238) (by decide +kernel) rfl), (gw_mem (i := 222) (by decide +kernel) rfl), (gw_mem (i := 38) (by decide +kernel) rfl), (gw_mem (i := 223) (by decide +kernel) rfl)⟩, ⟨by decide +kernel, by decide +kernel, by decide +kernel⟩, by decide⟩
theorem lS_J2_71 : sm_lS RJ2 71 yJ2_getChar_3b067 cJ2_getChar_3b067 2 (some .char) 2 := ⟨⟨(gw_mem (i := 239) (by decide +kernel) rfl), (gw_mem (i := 240) (by decide +kernel) rfl), (gw_mem (i := 41) (by decide +kernel) rfl), (gw_mem (i := 241) (by decide +kernel) rfl)⟩, ⟨by decide +kernel, by decide +kernel, by decide +kernel⟩, by decide⟩
theorem lV_X5_64 : sm_lV RX5 64 yX4_addLetter cX4_addLetter 2 (some .boolean) 1 := ⟨⟨(gw_mem (i := 248) (by decide +kernel) rfl), (gw_mem (i := 249) (by decide +kernel) rfl), (gw_mem (i := 250) (by decide +kernel) rfl), (gw_mem (i := 33) (by decide +kernel) rfl), (gw_mem (i := 251) (by decide +kernel) rfl)⟩, ⟨by decide +kernel, by decide +kernel, by decide +kernel⟩, by decide⟩
theorem lS_X4_22 : sm_lS RX4 22 yX2_set cX2_set 3 none 3 := ⟨⟨(gw_mem (i := 252) (by decide +kernel) rfl), (gw_mem (i := 253) (by decide +kernel) rfl), (gw_mem (i := 42) (by decide +kernel) rfl), (gw_mem (i := 254) (by decide +kernel) rfl)⟩, ⟨by decide +kernel, by decide +kernel, by decide +kernel⟩, by decide⟩
theorem lV_X5_68 : sm_lV RX5 68 yX4_readInto cX4_readInto 4 (some .int) 1 := ⟨⟨(gw_mem (i := 255) (by decide +kernel) rfl), (gw_mem (i := 256) (by decide +kernel) rfl), (gw_mem (i := 257) (by decide +kernel) rfl), (gw_mem (i := 33) (by decide +kernel) rfl), (gw_mem (i := 258) (by decide +kernel) rfl)⟩, ⟨by decide +kernel, by decide +kernel, by decide +kernel⟩, by decide⟩
theorem lV_X4_28 : sm_lV RX4 28 yX0_clear cX0_clear 1 none 0 := ⟨⟨(gw_mem (i := 259) (by decide +kernel) rfl), (gw_mem (i := 260) (by decide +kernel) rfl), (gw_mem (i := 261) (by decide +kernel) rfl), (gw_mem (i := 34) (by decide +kernel) rfl), (gw_mem (i := 262) (by decide +kernel) rfl)⟩, ⟨by decide +kernel, by decide +kernel, by decide +kernel⟩, by decide⟩
theorem lV_X4_36 : sm_lV RX4 36 yX4_readItem cX4_readItem 7 (some .boolean) 1 := ⟨⟨(gw_mem (i := 263) (by decide +kernel) rfl), (gw_mem (i := 264) (by decide +kernel) rfl), (gw_mem (i := 265) (by decide +kernel) rfl), (gw_mem (i := 33) (by decide +kernel) rfl), (gw_mem (i := 266) (by decide +kernel) rfl)⟩, ⟨by decide +kernel, by decide +kernel, by decide +kernel⟩, by decide⟩
theorem lV_X4_40 : sm_lV RX4 40 yX4_letterHere cX4_letterHere 1 (some .int) 0 := ⟨⟨(gw_mem (i := 267) (by decide +kernel) rfl), (gw_mem (i := 268) (by decide +kernel) rfl), (gw_mem (i := 269) (by decide +kernel) rfl), (gw_mem (i := 33) (by decide +kernel) rfl), (gw_mem (i := 270) (by decide +kernel) rfl)⟩, ⟨by decide +kernel, by decide +kernel, by decide +kernel⟩, by decide⟩
theorem lS_X4_47 : sm_lS RX4 47 yX2_at cX2_at 2 (some .int) 2 := ⟨⟨(gw_mem (i := 271) (by decide +kernel) rfl), (gw_mem (i := 272) (by decide +kernel) rfl), (gw_mem (i := 42) (by decide +kernel) rfl), (gw_mem (i := 273) (by decide +kernel) rfl)⟩, ⟨by decide +kernel, by decide +kernel, by decide +kernel⟩, by decide⟩
theorem lV_X4_44 : sm_lV RX4 44 yX4_readNumber cX4_readNumber 3 (some .int) 0 := ⟨⟨(gw_mem (i := 274) (by decide +kernel) rfl), (gw_mem (i := 275) (by decide +kernel) rfl), (gw_mem (i := 276) (by decide +kernel) rfl), (gw_mem (i := 33) (by decide +kernel) rfl), (gw_mem (i := 277) (by decide +kernel) rfl)⟩, ⟨by decide +kernel, by decide +kernel, by decide +kernel⟩, by decide⟩
theorem lJ_X4_69 : sm_lJ RX4 69 Lib.Math.max.name "java/lang/Math" Lib.Math.max.code 2 := ⟨(gw_mem (i := 281) (by decide +kernel) rfl), (gw_mem (i := 183) (by decide +kernel) rfl), (gw_mem (i := 37) (by decide +kernel) rfl), (gw_mem (i := 184) (by decide +kernel) rfl)⟩
theorem lS_X4_51 : sm_lS RX4 51 yX4_tellShip cX4_tellShip 4 (some .boolean) 4 := ⟨⟨(gw_mem (i := 282) (by decide +kernel) rfl), (gw_mem (i := 283) (by decide +kernel) rfl), (gw_mem (i := 33) (by decide +kernel) rfl), (gw_mem (i := 284) (by decide +kernel) rfl)⟩, ⟨by decide +kernel, by decide +kernel, by decide +kernel⟩, by decide⟩
theorem lV_X4_79 : sm_lV RX4 79 yX0_moveShip cX0_moveShip 3 none 2 := ⟨⟨(gw_mem (i := 288) (by decide +kernel) rfl), (gw_mem (i := 289) (by decide +kernel) rfl), (gw_mem (i := 290) (by decide +kernel) rfl), (gw_mem (i := 34) (by decide +kernel) rfl), (gw_mem (i := 291) (by decide +kernel) rfl)⟩, ⟨by decide +kernel, by decide +kernel, by decide +kernel⟩, by decide⟩
theorem lS_X4_55 : sm_lS RX4 55 yX4_tellWind cX4_tellWind 3 (some .boolean) 3 := ⟨⟨(gw_mem (i := 292) (by decide +kernel) rfl), (gw_mem (i := 293) (by decide +kernel) rfl), (gw_mem (i := 33) (by decide +kernel) rfl), (gw_mem (i := 294) (by decide +kernel) rfl)⟩, ⟨by decide +kernel, by decide +kernel, by decide +kernel⟩, by decide⟩
theorem lS_X4_59 : sm_lS RX4 59 yX4_tellPost cX4_tellPost 4 (some .boolean) 4 := ⟨⟨(gw_mem (i := 295) (by decide +kernel) rfl), (gw_mem (i := 296) (by decide +kernel) rfl), (gw_mem (i := 33) (by decide +kernel) rfl), (gw_mem (i := 297) (by decide +kernel) rfl)⟩, ⟨by decide +kernel, by decide +kernel, by decide +kernel⟩, by decide⟩
theorem lV_X4_95 : sm_lV RX4 95 yX0_addPost cX0_addPost 4 none 3 := ⟨⟨(gw_mem (i := 298) (by decide +kernel) rfl), (gw_mem (i := 299) (by decide +kernel) rfl), (gw_mem (i := 300) (by decide +kernel) rfl), (gw_mem (i := 34) (by decide +kernel) rfl), (gw_mem (i := 301) (by decide +kernel) rfl)⟩, ⟨by decide +kernel, by decide +kernel, by decide +kernel⟩, by decide⟩
theorem lV_X0_64 : sm_lV RX0 64 yX0_changePost cX0_changePost 5 none 4 := ⟨⟨(gw_mem (i := 302) (by decide +kernel) rfl), (gw_mem (i := 303) (by decide +kernel) rfl), (gw_mem (i := 304) (by decide +kernel) rfl), (gw_mem (i := 34) (by decide +kernel) rfl), (gw_mem (i := 305) (by decide +kernel) rfl)⟩, ⟨by decide +kernel, by decide +kernel, by decide +kernel⟩, by decide⟩
theorem lS_X0_68 : sm_lS RX0 68 yX2_set cX2_set 3 none 3 := ⟨⟨(gw_mem (i := 306) (by decide +kernel) rfl), (gw_mem (i := 253) (by decide +kernel) rfl), (gw_mem (i := 42) (by decide +kernel) rfl), (gw_mem (i := 254) (by decide +kernel) rfl)⟩, ⟨by decide +kernel, by decide +kernel, by decide +kernel⟩, by decide⟩
theorem lS_X4_62 : sm_lS RX4 62 yX4_tellSailor cX4_tellSailor 4 (some .boolean) 4 := ⟨⟨(gw_mem (i := 307) (by decide +kernel) rfl), (gw_mem (i := 308) (by decide +kernel) rfl), (gw_mem (i := 33) (by decide +kernel) rfl), (gw_mem (i := 309) (by decide +kernel) rfl)⟩, ⟨by decide +kernel, by decide +kernel, by decide +kernel⟩, by decide⟩
theorem lV_X4_102 : sm_lV RX4 102 yX0_addSailor cX0_addSailor 4 none 3 := ⟨⟨(gw_mem (i := 310) (by decide +kernel) rfl), (gw_mem (i := 311) (by decide +kernel) rfl), (gw_mem (i := 312) (by decide +kernel) rfl), (gw_mem (i := 34) (by decide +kernel) rfl), (gw_mem (i := 313) (by decide +kernel) rfl)⟩, ⟨by decide +kernel, by decide +kernel, by decide +kernel⟩, by decide⟩
theorem lV_L_13 : sm_lV RL 13 yX5_write cX5_write 2 (some .int) 1 := ⟨⟨(gw_mem (i := 340) (by decide +kernel) rfl), (gw_mem (i := 341) (by decide +kernel) rfl), (gw_mem (i := 342) (by decide +kernel) rfl), (gw_mem (i := 32) (by decide +kernel) rfl), (gw_mem (i := 343) (by decide +kernel) rfl)⟩, ⟨by decide +kernel, by decide +kernel, by decide +kernel⟩, by decide⟩
theorem lS_X5_75 : sm_lS RX5 75 yX5_within cX5_within 3 (some .boolean) 3 := ⟨⟨(gw_mem (i := 344) (by decide +kernel) rfl), (gw_mem (i := 279) (by decide +kernel) rfl), (gw_mem (i := 32) (by decide +kernel) rfl), (gw_mem (i := 280) (by decide +kernel) rfl)⟩, ⟨by decide +kernel, by decide +kernel, by decide +kernel⟩, by decide⟩
theorem lV_L_18 : sm_lV RL 18 yX5_wipe cX5_wipe 2 (some .int) 0 := ⟨⟨(gw_mem (i := 345) (by decide +kernel) rfl), (gw_mem (i := 346) (by decide +kernel) rfl), (gw_mem (i := 347) (by decide +kernel) rfl), (gw_mem (i := 32) (by decide +kernel) rfl), (gw_mem (i := 348) (by decide +kernel) rfl)⟩, ⟨by decide +kernel, by decide +kernel, by decide +kernel⟩, by decide⟩
theorem lV_L_23 : sm_lV RL 23 yX5_fault cX5_fault 1 (some .int) 0 := ⟨⟨(gw_mem (i := 349) (by decide +kernel) rfl), (gw_mem (i := 350) (by decide +kernel) rfl), (gw_mem (i := 351) (by decide +kernel) rfl), (gw_mem (i := 32) (by decide +kernel) rfl), (gw_mem (i := 352) (by decide +kernel) rfl)⟩, ⟨by decide +kernel, by decide +kernel, by decide +kernel⟩, by decide⟩
theorem lV_L_27 : sm_lV RL 27 yX5_lay cX5_lay 2 (some .int) 0 := ⟨⟨(gw_mem (i := 353) (by decide +kernel) rfl), (gw_mem (i := 354) (by decide +kernel) rfl), (gw_mem (i := 355) (by decide +kernel) rfl), (gw_mem (i := 32) (by decide +kernel) rfl), (gw_mem (i := 356) (by decide +kernel) rfl)⟩, ⟨by decide +kernel, by decide +kernel, by decide +kernel⟩, by decide⟩
theorem lV_X5_85 : sm_lV RX5 85 yX0_copyFrom cX0_copyFrom 2 none 1 := ⟨⟨(gw_mem (i := 357) (by decide +kernel) rfl), (gw_mem (i := 358) (by decide +kernel) rfl), (gw_mem (i := 359) (by decide +kernel) rfl), (gw_mem (i := 34) (by decide +kernel) rfl), (gw_mem (i := 360) (by decide +kernel) rfl)⟩, ⟨by decide +kernel, by decide +kernel, by decide +kernel⟩, by decide⟩
theorem lS_X0_58 : sm_lS RX0 58 yX2_copy cX2_copy 2 none 2 := ⟨⟨(gw_mem (i := 361) (by decide +kernel) rfl), (gw_mem (i := 362) (by decide +kernel) rfl), (gw_mem (i := 42) (by decide +kernel) rfl), (gw_mem (i := 363) (by decide +kernel) rfl)⟩, ⟨by decide +kernel, by decide +kernel, by decide +kernel⟩, by decide⟩
theorem lJ_X2_7 : sm_lJ RX2 7 Lib.Math.min.name "java/lang/Math" Lib.Math.min.code 2 := ⟨(gw_mem (i := 364) (by decide +kernel) rfl), (gw_mem (i := 365) (by decide +kernel) rfl), (gw_mem (i := 37) (by decide +kernel) rfl), (gw_mem (i := 366) (by decide +kernel) rfl)⟩
theorem lV_L_31 : sm_lV RL 31 yX5_post cX5_post 3 (some .int) 2 := ⟨⟨(gw_mem (i := 370) (by decide +kernel) rfl), (gw_mem (i := 371) (by decide +kernel) rfl), (gw_mem (i := 372) (by decide +kernel) rfl), (gw_mem (i := 32) (by decide +kernel) rfl), (gw_mem (i := 373) (by decide +kernel) rfl)⟩, ⟨by decide +kernel, by decide +kernel, by decide +kernel⟩, by decide⟩
theorem lV_X5_93 : sm_lV RX5 93 yX0_hasPost cX0_hasPost 2 (some .boolean) 1 := ⟨⟨(gw_mem (i := 374) (by decide +kernel) rfl), (gw_mem (i := 375) (by decide +kernel) rfl), (gw_mem (i := 376) (by decide +kernel) rfl), (gw_mem (i := 34) (by decide +kernel) rfl), (gw_mem (i := 377) (by decide +kernel) rfl)⟩, ⟨by decide +kernel, by decide +kernel, by decide +kernel⟩, by decide⟩
theorem lS_X5_99 : sm_lS RX5 99 yX2_at cX2_at 2 (some .int) 2 := ⟨⟨(gw_mem (i := 378) (by decide +kernel) rfl), (gw_mem (i := 272) (by decide +kernel) rfl), (gw_mem (i := 42) (by decide +kernel) rfl), (gw_mem (i := 273) (by decide +kernel) rfl)⟩, ⟨by decide +kernel, by decide +kernel, by decide +kernel⟩, by decide⟩
theorem lV_L_36 : sm_lV RL 36 yX5_crew cX5_crew 5 (some .int) 2 := ⟨⟨(gw_mem (i := 379) (by decide +kernel) rfl), (gw_mem (i := 380) (by decide +kernel) rfl), (gw_mem (i := 381) (by decide +kernel) rfl), (gw_mem (i := 32) (by decide +kernel) rfl), (gw_mem (i := 382) (by decide +kernel) rfl)⟩, ⟨by decide +kernel, by decide +kernel, by decide +kernel⟩, by decide⟩
theorem lV_X5_114 : sm_lV RX5 114 yX0_hasSailor cX0_hasSailor 2 (some .boolean) 1 := ⟨⟨(gw_mem (i := 383) (by decide +kernel) rfl), (gw_mem (i := 384) (by decide +kernel) rfl), (gw_mem (i := 385) (by decide +kernel) rfl), (gw_mem (i := 34) (by decide +kernel) rfl), (gw_mem (i := 386) (by decide +kernel) rfl)⟩, ⟨by decide +kernel, by decide +kernel, by decide +kernel⟩, by decide⟩
theorem lV_X5_117 : sm_lV RX5 117 yX0_nearestPost cX0_nearestPost 7 (some .int) 1 := ⟨⟨(gw_mem (i := 387) (by decide +kernel) rfl), (gw_mem (i := 388) (by decide +kernel) rfl), (gw_mem (i := 389) (by decide +kernel) rfl), (gw_mem (i := 34) (by decide +kernel) rfl), (gw_mem (i := 390) (by decide +kernel) rfl)⟩, ⟨by decide +kernel, by decide +kernel, by decide +kernel⟩, by decide⟩
theorem lS_X0_72 : sm_lS RX0 72 yX2_at cX2_at 2 (some .int) 2 := ⟨⟨(gw_mem (i := 391) (by decide +kernel) rfl), (gw_mem (i := 272) (by decide +kernel) rfl), (gw_mem (i := 42) (by decide +kernel) rfl), (gw_mem (i := 273) (by decide +kernel) rfl)⟩, ⟨by decide +kernel, by decide +kernel, by decide +kernel⟩, by decide⟩
theorem lV_X0_82 : sm_lV RX0 82 yX0_apart cX0_apart 2 (some .int) 1 := ⟨⟨(gw_mem (i := 392) (by decide +kernel) rfl), (gw_mem (i := 393) (by decide +kernel) rfl), (gw_mem (i := 394) (by decide +kernel) rfl), (gw_mem (i := 34) (by decide +kernel) rfl), (gw_mem (i := 395) (by decide +kernel) rfl)⟩, ⟨by decide +kernel, by decide +kernel, by decide +kernel⟩, by decide⟩
theorem lJ_X0_76 : sm_lJ RX0 76 Lib.Math.abs.name "java/lang/Math" Lib.Math.abs.code 1 := ⟨(gw_mem (i := 396) (by decide +kernel) rfl), (gw_mem (i := 397) (by decide +kernel) rfl), (gw_mem (i := 37) (by decide +kernel) rfl), (gw_mem (i := 398) (by decide +kernel) rfl)⟩
theorem lV_X5_121 : sm_lV RX5 121 yX0_strengthTo cX0_strengthTo 5 (some .int) 2 := ⟨⟨(gw_mem (i := 399) (by decide +kernel) rfl), (gw_mem (i := 400) (by decide +kernel) rfl), (gw_mem (i := 401) (by decide +kernel) rfl), (gw_mem (i := 34) (by decide +kernel) rfl), (gw_mem (i := 402) (by decide +kernel) rfl)⟩, ⟨by decide +kernel, by decide +kernel, by decide +kernel⟩, by decide⟩
theorem lV_X0_85 : sm_lV RX0 85 yX0_hasPost cX0_hasPost 2 (some .boolean) 1 := ⟨⟨(gw_mem (i := 403) (by decide +kernel) rfl), (gw_mem (i := 375) (by decide +kernel) rfl), (gw_mem (i := 376) (by decide +kernel) rfl), (gw_mem (i := 34) (by decide +kernel) rfl), (gw_mem (i := 377) (by decide +kernel) rfl)⟩, ⟨by decide +kernel, by decide +kernel, by decide +kernel⟩, by decide⟩
theorem lJ_X0_89 : sm_lJ RX0 89 Lib.Math.min.name "java/lang/Math" Lib.Math.min.code 2 := ⟨(gw_mem (i := 404) (by decide +kernel) rfl), (gw_mem (i := 365) (by decide +kernel) rfl), (gw_mem (i := 37) (by decide +kernel) rfl), (gw_mem (i := 366) (by decide +kernel) rfl)⟩
theorem lJ_X0_93 : sm_lJ RX0 93 Lib.Math.max.name "java/lang/Math" Lib.Math.max.code 2 := ⟨(gw_mem (i := 405) (by decide +kernel) rfl), (gw_mem (i := 183) (by decide +kernel) rfl), (gw_mem (i := 37) (by decide +kernel) rfl), (gw_mem (i := 184) (by decide +kernel) rfl)⟩
theorem lV_X5_134 : sm_lV RX5 134 yX0_headingTo cX0_headingTo 5 (some .int) 2 := ⟨⟨(gw_mem (i := 406) (by decide +kernel) rfl), (gw_mem (i := 407) (by decide +kernel) rfl), (gw_mem (i := 408) (by decide +kernel) rfl), (gw_mem (i := 34) (by decide +kernel) rfl), (gw_mem (i := 409) (by decide +kernel) rfl)⟩, ⟨by decide +kernel, by decide +kernel, by decide +kernel⟩, by decide⟩
theorem lV_L_40 : sm_lV RL 40 yX5_pull cX5_pull 3 (some .int) 1 := ⟨⟨(gw_mem (i := 410) (by decide +kernel) rfl), (gw_mem (i := 411) (by decide +kernel) rfl), (gw_mem (i := 412) (by decide +kernel) rfl), (gw_mem (i := 32) (by decide +kernel) rfl), (gw_mem (i := 413) (by decide +kernel) rfl)⟩, ⟨by decide +kernel, by decide +kernel, by decide +kernel⟩, by decide⟩
theorem lV_X5_137 : sm_lV RX5 137 yX0_goesTo cX0_goesTo 4 (some .int) 0 := ⟨⟨(gw_mem (i := 414) (by decide +kernel) rfl), (gw_mem (i := 415) (by decide +kernel) rfl), (gw_mem (i := 416) (by decide +kernel) rfl), (gw_mem (i := 34) (by decide +kernel) rfl), (gw_mem (i := 417) (by decide +kernel) rfl)⟩, ⟨by decide +kernel, by decide +kernel, by decide +kernel⟩, by decide⟩
theorem lV_X0_108 : sm_lV RX0 108 yX0_addPull cX0_addPull 3 none 2 := ⟨⟨(gw_mem (i := 418) (by decide +kernel) rfl), (gw_mem (i := 419) (by decide +kernel) rfl), (gw_mem (i := 420) (by decide +kernel) rfl), (gw_mem (i := 34) (by decide +kernel) rfl), (gw_mem (i := 421) (by decide +kernel) rfl)⟩, ⟨by decide +kernel, by decide +kernel, by decide +kernel⟩, by decide⟩
theorem lV_X0_112 : sm_lV RX0 112 yX0_nearestPost cX0_nearestPost 7 (some .int) 1 := ⟨⟨(gw_mem (i := 426) (by decide +kernel) rfl), (gw_mem (i := 388) (by decide +kernel) rfl), (gw_mem (i := 389) (by decide +kernel) rfl), (gw_mem (i := 34) (by decide +kernel) rfl), (gw_mem (i := 390) (by decide +kernel) rfl)⟩, ⟨by decide +kernel, by decide +kernel, by decide +kernel⟩, by decide⟩
theorem lV_X0_115 : sm_lV RX0 115 yX0_strengthTo cX0_strengthTo 5 (some .int) 2 := ⟨⟨(gw_mem (i := 427) (by decide +kernel) rfl), (gw_mem (i := 400) (by decide +kernel) rfl), (gw_mem (i := 401) (by decide +kernel) rfl), (gw_mem (i := 34) (by decide +kernel) rfl), (gw_mem (i := 402) (by decide +kernel) rfl)⟩, ⟨by decide +kernel, by decide +kernel, by decide +kernel⟩, by decide⟩
theorem lV_X0_118 : sm_lV RX0 118 yX0_headingTo cX0_headingTo 5 (some .int) 2 := ⟨⟨(gw_mem (i := 428) (by decide +kernel) rfl), (gw_mem (i := 407) (by decide +kernel) rfl), (gw_mem (i := 408) (by decide +kernel) rfl), (gw_mem (i := 34) (by decide +kernel) rfl), (gw_mem (i := 409) (by decide +kernel) rfl)⟩, ⟨by decide +kernel, by decide +kernel, by decide +kernel⟩, by decide⟩
theorem lV_L_44 : sm_lV RL 44 yX5_pass cX5_pass 2 (some .int) 1 := ⟨⟨(gw_mem (i := 430) (by decide +kernel) rfl), (gw_mem (i := 431) (by decide +kernel) rfl), (gw_mem (i := 432) (by decide +kernel) rfl), (gw_mem (i := 32) (by decide +kernel) rfl), (gw_mem (i := 433) (by decide +kernel) rfl)⟩, ⟨by decide +kernel, by decide +kernel, by decide +kernel⟩, by decide⟩
theorem lV_X5_149 : sm_lV RX5 149 yX1_push cX1_push 3 none 1 := ⟨⟨(gw_mem (i := 434) (by decide +kernel) rfl), (gw_mem (i := 435) (by decide +kernel) rfl), (gw_mem (i := 436) (by decide +kernel) rfl), (gw_mem (i := 36) (by decide +kernel) rfl), (gw_mem (i := 437) (by decide +kernel) rfl)⟩, ⟨by decide +kernel, by decide +kernel, by decide +kernel⟩, by decide⟩
theorem lV_X1_26 : sm_lV RX1 26 yX1_topField cX1_topField 1 (some (.object "SmellMoorings$Field")) 0 := ⟨⟨(gw_mem (i := 438) (by decide +kernel) rfl), (gw_mem (i := 439) (by decide +kernel) rfl), (gw_mem (i := 440) (by decide +kernel) rfl), (gw_mem (i := 36) (by decide +kernel) rfl), (gw_mem (i := 441) (by decide +kernel) rfl)⟩, ⟨by decide +kernel, by decide +kernel, by decide +kernel⟩, by decide⟩
theorem lV_X1_30 : sm_lV RX1 30 yX0_copyFrom cX0_copyFrom 2 none 1 := ⟨⟨(gw_mem (i := 442) (by decide +kernel) rfl), (gw_mem (i := 358) (by decide +kernel) rfl), (gw_mem (i := 359) (by decide +kernel) rfl), (gw_mem (i := 34) (by decide +kernel) rfl), (gw_mem (i := 360) (by decide +kernel) rfl)⟩, ⟨by decide +kernel, by decide +kernel, by decide +kernel⟩, by decide⟩
theorem lJ_X1_37 : sm_lJ RX1 37 Lib.Math.min.name "java/lang/Math" Lib.Math.min.code 2 := ⟨(gw_mem (i := 443) (by decide +kernel) rfl), (gw_mem (i := 365) (by decide +kernel) rfl), (gw_mem (i := 37) (by decide +kernel) rfl), (gw_mem (i := 366) (by decide +kernel) rfl)⟩
theorem lV_X5_152 : sm_lV RX5 152 yX0_goHours cX0_goHours 5 (some .int) 1 := ⟨⟨(gw_mem (i := 444) (by decide +kernel) rfl), (gw_mem (i := 445) (by decide +kernel) rfl), (gw_mem (i := 446) (by decide +kernel) rfl), (gw_mem (i := 34) (by decide +kernel) rfl), (gw_mem (i := 447) (by decide +kernel) rfl)⟩, ⟨by decide +kernel, by decide +kernel, by decide +kernel⟩, by decide⟩
theorem lV_X0_125 : sm_lV RX0 125 yX0_goesTo cX0_goesTo 4 (some .int) 0 := ⟨⟨(gw_mem (i := 448) (by decide +kernel) rfl), (gw_mem (i := 415) (by decide +kernel) rfl), (gw_mem (i := 416) (by decide +kernel) rfl), (gw_mem (i := 34) (by decide +kernel) rfl), (gw_mem (i := 417) (by decide +kernel) rfl)⟩, ⟨by decide +kernel, by decide +kernel, by decide +kernel⟩, by decide⟩
theorem lV_L_48 : sm_lV RL 48 yX5_wind cX5_wind 4 (some .int) 2 := ⟨⟨(gw_mem (i := 449) (by decide +kernel) rfl), (gw_mem (i := 450) (by decide +kernel) rfl), (gw_mem (i := 451) (by decide +kernel) rfl), (gw_mem (i := 32) (by decide +kernel) rfl), (gw_mem (i := 452) (by decide +kernel) rfl)⟩, ⟨by decide +kernel, by decide +kernel, by decide +kernel⟩, by decide⟩
theorem lV_L_52 : sm_lV RL 52 yX5_put cX5_put 5 (some .int) 3 := ⟨⟨(gw_mem (i := 453) (by decide +kernel) rfl), (gw_mem (i := 454) (by decide +kernel) rfl), (gw_mem (i := 455) (by decide +kernel) rfl), (gw_mem (i := 32) (by decide +kernel) rfl), (gw_mem (i := 456) (by decide +kernel) rfl)⟩, ⟨by decide +kernel, by decide +kernel, by decide +kernel⟩, by decide⟩
theorem lS_X5_161 : sm_lS RX5 161 yX5_isCell cX5_isCell 2 (some .boolean) 2 := ⟨⟨(gw_mem (i := 457) (by decide +kernel) rfl), (gw_mem (i := 286) (by decide +kernel) rfl), (gw_mem (i := 32) (by decide +kernel) rfl), (gw_mem (i := 287) (by decide +kernel) rfl)⟩, ⟨by decide +kernel, by decide +kernel, by decide +kernel⟩, by decide⟩
theorem lS_X5_165 : sm_lS RX5 165 yX2_set cX2_set 3 none 3 := ⟨⟨(gw_mem (i := 458) (by decide +kernel) rfl), (gw_mem (i := 253) (by decide +kernel) rfl), (gw_mem (i := 42) (by decide +kernel) rfl), (gw_mem (i := 254) (by decide +kernel) rfl)⟩, ⟨by decide +kernel, by decide +kernel, by decide +kernel⟩, by decide⟩
theorem lV_L_57 : sm_lV RL 57 yX5_smell cX5_smell 4 (some .int) 2 := ⟨⟨(gw_mem (i := 459) (by decide +kernel) rfl), (gw_mem (i := 460) (by decide +kernel) rfl), (gw_mem (i := 461) (by decide +kernel) rfl), (gw_mem (i := 32) (by decide +kernel) rfl), (gw_mem (i := 462) (by decide +kernel) rfl)⟩, ⟨by decide +kernel, by decide +kernel, by decide +kernel⟩, by decide⟩
theorem lV_L_61 : sm_lV RL 61 yX5_take cX5_take 2 (some .int) 1 := ⟨⟨(gw_mem (i := 463) (by decide +kernel) rfl), (gw_mem (i := 464) (by decide +kernel) rfl), (gw_mem (i := 465) (by decide +kernel) rfl), (gw_mem (i := 32) (by decide +kernel) rfl), (gw_mem (i := 466) (by decide +kernel) rfl)⟩, ⟨by decide +kernel, by decide +kernel, by decide +kernel⟩, by decide⟩
theorem lV_X5_169 : sm_lV RX5 169 yX0_standingPosts cX0_standingPosts 3 (some .int) 0 := ⟨⟨(gw_mem (i := 467) (by decide +kernel) rfl), (gw_mem (i := 468) (by decide +kernel) rfl), (gw_mem (i := 469) (by decide +kernel) rfl), (gw_mem (i := 34) (by decide +kernel) rfl), (gw_mem (i := 470) (by decide +kernel) rfl)⟩, ⟨by decide +kernel, by decide +kernel, by decide +kernel⟩, by decide⟩
theorem lS_X5_172 : sm_lS RX5 172 yJ6_bitCount_0f7a4 cJ6_bitCount_0f7a4 1 (some .int) 1 := ⟨⟨(gw_mem (i := 471) (by decide +kernel) rfl), (gw_mem (i := 472) (by decide +kernel) rfl), (gw_mem (i := 45) (by decide +kernel) rfl), (gw_mem (i := 473) (by decide +kernel) rfl)⟩, ⟨by decide +kernel, by decide +kernel, by decide +kernel⟩, by decide⟩
theorem lV_L_65 : sm_lV RL 65 yX5_undo cX5_undo 1 (some .int) 0 := ⟨⟨(gw_mem (i := 477) (by decide +kernel) rfl), (gw_mem (i := 478) (by decide +kernel) rfl), (gw_mem (i := 479) (by decide +kernel) rfl), (gw_mem (i := 32) (by decide +kernel) rfl), (gw_mem (i := 480) (by decide +kernel) rfl)⟩, ⟨by decide +kernel, by decide +kernel, by decide +kernel⟩, by decide⟩
theorem lV_X5_177 : sm_lV RX5 177 yX1_popInto cX1_popInto 3 (some .boolean) 1 := ⟨⟨(gw_mem (i := 481) (by decide +kernel) rfl), (gw_mem (i := 482) (by decide +kernel) rfl), (gw_mem (i := 483) (by decide +kernel) rfl), (gw_mem (i := 36) (by decide +kernel) rfl), (gw_mem (i := 484) (by decide +kernel) rfl)⟩, ⟨by decide +kernel, by decide +kernel, by decide +kernel⟩, by decide⟩
theorem lV_L_69 : sm_lV RL 69 yX5_behind cX5_behind 3 (some .int) 2 := ⟨⟨(gw_mem (i := 485) (by decide +kernel) rfl), (gw_mem (i := 486) (by decide +kernel) rfl), (gw_mem (i := 487) (by decide +kernel) rfl), (gw_mem (i := 32) (by decide +kernel) rfl), (gw_mem (i := 488) (by decide +kernel) rfl)⟩, ⟨by decide +kernel, by decide +kernel, by decide +kernel⟩, by decide⟩
theorem lV_L_73 : sm_lV RL 73 yX5_stands cX5_stands 2 (some .int) 0 := ⟨⟨(gw_mem (i := 489) (by decide +kernel) rfl), (gw_mem (i := 490) (by decide +kernel) rfl), (gw_mem (i := 491) (by decide +kernel) rfl), (gw_mem (i := 32) (by decide +kernel) rfl), (gw_mem (i := 492) (by decide +kernel) rfl)⟩, ⟨by decide +kernel, by decide +kernel, by decide +kernel⟩, by decide⟩
theorem lV_L_77 : sm_lV RL 77 yX5_gale cX5_gale 3 (some .int) 1 := ⟨⟨(gw_mem (i := 493) (by decide +kernel) rfl), (gw_mem (i := 494) (by decide +kernel) rfl), (gw_mem (i := 495) (by decide +kernel) rfl), (gw_mem (i := 32) (by decide +kernel) rfl), (gw_mem (i := 496) (by decide +kernel) rfl)⟩, ⟨by decide +kernel, by decide +kernel, by decide +kernel⟩, by decide⟩
theorem lV_L_81 : sm_lV RL 81 yX5_hold cX5_hold 5 (some .int) 0 := ⟨⟨(gw_mem (i := 497) (by decide +kernel) rfl), (gw_mem (i := 498) (by decide +kernel) rfl), (gw_mem (i := 499) (by decide +kernel) rfl), (gw_mem (i := 32) (by decide +kernel) rfl), (gw_mem (i := 500) (by decide +kernel) rfl)⟩, ⟨by decide +kernel, by decide +kernel, by decide +kernel⟩, by decide⟩
theorem lV_X5_187 : sm_lV RX5 187 yX0_addPost cX0_addPost 4 none 3 := ⟨⟨(gw_mem (i := 501) (by decide +kernel) rfl), (gw_mem (i := 299) (by decide +kernel) rfl), (gw_mem (i := 300) (by decide +kernel) rfl), (gw_mem (i := 34) (by decide +kernel) rfl), (gw_mem (i := 301) (by decide +kernel) rfl)⟩, ⟨by decide +kernel, by decide +kernel, by decide +kernel⟩, by decide⟩
theorem lV_X5_191 : sm_lV RX5 191 yX0_changePost cX0_changePost 5 none 4 := ⟨⟨(gw_mem (i := 502) (by decide +kernel) rfl), (gw_mem (i := 303) (by decide +kernel) rfl), (gw_mem (i := 304) (by decide +kernel) rfl), (gw_mem (i := 34) (by decide +kernel) rfl), (gw_mem (i := 305) (by decide +kernel) rfl)⟩, ⟨by decide +kernel, by decide +kernel, by decide +kernel⟩, by decide⟩
theorem lV_X5_195 : sm_lV RX5 195 yX0_isShipAt cX0_isShipAt 3 (some .boolean) 2 := ⟨⟨(gw_mem (i := 503) (by decide +kernel) rfl), (gw_mem (i := 504) (by decide +kernel) rfl), (gw_mem (i := 505) (by decide +kernel) rfl), (gw_mem (i := 34) (by decide +kernel) rfl), (gw_mem (i := 506) (by decide +kernel) rfl)⟩, ⟨by decide +kernel, by decide +kernel, by decide +kernel⟩, by decide⟩
theorem lS_X5_198 : sm_lS RX5 198 yX5_nameOf cX5_nameOf 3 (some .int) 3 := ⟨⟨(gw_mem (i := 507) (by decide +kernel) rfl), (gw_mem (i := 508) (by decide +kernel) rfl), (gw_mem (i := 32) (by decide +kernel) rfl), (gw_mem (i := 509) (by decide +kernel) rfl)⟩, ⟨by decide +kernel, by decide +kernel, by decide +kernel⟩, by decide⟩
theorem lV_L_85 : sm_lV RL 85 yX5_brings cX5_brings 10 (some .int) 3 := ⟨⟨(gw_mem (i := 510) (by decide +kernel) rfl), (gw_mem (i := 511) (by decide +kernel) rfl), (gw_mem (i := 512) (by decide +kernel) rfl), (gw_mem (i := 32) (by decide +kernel) rfl), (gw_mem (i := 513) (by decide +kernel) rfl)⟩, ⟨by decide +kernel, by decide +kernel, by decide +kernel⟩, by decide⟩
theorem lV_X5_202 : sm_lV RX5 202 yX0_moveShip cX0_moveShip 3 none 2 := ⟨⟨(gw_mem (i := 514) (by decide +kernel) rfl), (gw_mem (i := 289) (by decide +kernel) rfl), (gw_mem (i := 290) (by decide +kernel) rfl), (gw_mem (i := 34) (by decide +kernel) rfl), (gw_mem (i := 291) (by decide +kernel) rfl)⟩, ⟨by decide +kernel, by decide +kernel, by decide +kernel⟩, by decide⟩
theorem lV_X5_206 : sm_lV RX5 206 yX0_hoursTo cX0_hoursTo 7 (some .int) 3 := ⟨⟨(gw_mem (i := 515) (by decide +kernel) rfl), (gw_mem (i := 516) (by decide +kernel) rfl), (gw_mem (i := 517) (by decide +kernel) rfl), (gw_mem (i := 34) (by decide +kernel) rfl), (gw_mem (i := 518) (by decide +kernel) rfl)⟩, ⟨by decide +kernel, by decide +kernel, by decide +kernel⟩, by decide⟩
theorem lV_X0_129 : sm_lV RX0 129 yX0_goHours cX0_goHours 5 (some .int) 1 := ⟨⟨(gw_mem (i := 519) (by decide +kernel) rfl), (gw_mem (i := 445) (by decide +kernel) rfl), (gw_mem (i := 446) (by decide +kernel) rfl), (gw_mem (i := 34) (by decide +kernel) rfl), (gw_mem (i := 447) (by decide +kernel) rfl)⟩, ⟨by decide +kernel, by decide +kernel, by decide +kernel⟩, by decide⟩
theorem lV_X0_132 : sm_lV RX0 132 yX0_isShipAt cX0_isShipAt 3 (some .boolean) 2 := ⟨⟨(gw_mem (i := 520) (by decide +kernel) rfl), (gw_mem (i := 504) (by decide +kernel) rfl), (gw_mem (i := 505) (by decide +kernel) rfl), (gw_mem (i := 34) (by decide +kernel) rfl), (gw_mem (i := 506) (by decide +kernel) rfl)⟩, ⟨by decide +kernel, by decide +kernel, by decide +kernel⟩, by decide⟩
theorem lS_X0_135 : sm_lS RX0 135 yJ6_bitCount_0f7a4 cJ6_bitCount_0f7a4 1 (some .int) 1 := ⟨⟨(gw_mem (i := 521) (by decide +kernel) rfl), (gw_mem (i := 472) (by decide +kernel) rfl), (gw_mem (i := 45) (by decide +kernel) rfl), (gw_mem (i := 473) (by decide +kernel) rfl)⟩, ⟨by decide +kernel, by decide +kernel, by decide +kernel⟩, by decide⟩
theorem lV_L_89 : sm_lV RL 89 yX5_keeps cX5_keeps 8 (some .int) 1 := ⟨⟨(gw_mem (i := 522) (by decide +kernel) rfl), (gw_mem (i := 523) (by decide +kernel) rfl), (gw_mem (i := 524) (by decide +kernel) rfl), (gw_mem (i := 32) (by decide +kernel) rfl), (gw_mem (i := 525) (by decide +kernel) rfl)⟩, ⟨by decide +kernel, by decide +kernel, by decide +kernel⟩, by decide⟩
theorem lV_X5_209 : sm_lV RX5 209 yX5_endsAt cX5_endsAt 5 (some .boolean) 3 := ⟨⟨(gw_mem (i := 526) (by decide +kernel) rfl), (gw_mem (i := 528) (by decide +kernel) rfl), (gw_mem (i := 0) (by decide +kernel) rfl), (gw_mem (i := 32) (by decide +kernel) rfl), (gw_mem (i := 529) (by decide +kernel) rfl)⟩, ⟨by decide +kernel, by decide +kernel, by decide +kernel⟩, by decide⟩
theorem lV_L_93 : sm_lV RL 93 yX5_instead cX5_instead 5 (some .int) 0 := ⟨⟨(gw_mem (i := 530) (by decide +kernel) rfl), (gw_mem (i := 531) (by decide +kernel) rfl), (gw_mem (i := 532) (by decide +kernel) rfl), (gw_mem (i := 32) (by decide +kernel) rfl), (gw_mem (i := 533) (by decide +kernel) rfl)⟩, ⟨by decide +kernel, by decide +kernel, by decide +kernel⟩, by decide⟩
theorem lV_L_97 : sm_lV RL 97 yX5_seen cX5_seen 4 (some .int) 3 := ⟨⟨(gw_mem (i := 534) (by decide +kernel) rfl), (gw_mem (i := 535) (by decide +kernel) rfl), (gw_mem (i := 536) (by decide +kernel) rfl), (gw_mem (i := 32) (by decide +kernel) rfl), (gw_mem (i := 537) (by decide +kernel) rfl)⟩, ⟨by decide +kernel, by decide +kernel, by decide +kernel⟩, by decide⟩
theorem lV_X5_212 : sm_lV RX5 212 yX3_addSighting cX3_addSighting 4 (some .boolean) 3 := ⟨⟨(gw_mem (i := 538) (by decide +kernel) rfl), (gw_mem (i := 539) (by decide +kernel) rfl), (gw_mem (i := 540) (by decide +kernel) rfl), (gw_mem (i := 35) (by decide +kernel) rfl), (gw_mem (i := 541) (by decide +kernel) rfl)⟩, ⟨by decide +kernel, by decide +kernel, by decide +kernel⟩, by decide⟩
theorem lS_X3_25 : sm_lS RX3 25 yX2_set cX2_set 3 none 3 := ⟨⟨(gw_mem (i := 542) (by decide +kernel) rfl), (gw_mem (i := 253) (by decide +kernel) rfl), (gw_mem (i := 42) (by decide +kernel) rfl), (gw_mem (i := 254) (by decide +kernel) rfl)⟩, ⟨by decide +kernel, by decide +kernel, by decide +kernel⟩, by decide⟩
theorem lV_L_101 : sm_lV RL 101 yX5_forget cX5_forget 2 (some .int) 0 := ⟨⟨(gw_mem (i := 543) (by decide +kernel) rfl), (gw_mem (i := 544) (by decide +kernel) rfl), (gw_mem (i := 545) (by decide +kernel) rfl), (gw_mem (i := 32) (by decide +kernel) rfl), (gw_mem (i := 546) (by decide +kernel) rfl)⟩, ⟨by decide +kernel, by decide +kernel, by decide +kernel⟩, by decide⟩
theorem lV_L_105 : sm_lV RL 105 yX5_may cX5_may 3 (some .int) 2 := ⟨⟨(gw_mem (i := 547) (by decide +kernel) rfl), (gw_mem (i := 548) (by decide +kernel) rfl), (gw_mem (i := 549) (by decide +kernel) rfl), (gw_mem (i := 32) (by decide +kernel) rfl), (gw_mem (i := 550) (by decide +kernel) rfl)⟩, ⟨by decide +kernel, by decide +kernel, by decide +kernel⟩, by decide⟩
theorem lV_X5_215 : sm_lV RX5 215 yX5_bitsThatFit cX5_bitsThatFit 7 (some .int) 4 := ⟨⟨(gw_mem (i := 551) (by decide +kernel) rfl), (gw_mem (i := 553) (by decide +kernel) rfl), (gw_mem (i := 1) (by decide +kernel) rfl), (gw_mem (i := 32) (by decide +kernel) rfl), (gw_mem (i := 554) (by decide +kernel) rfl)⟩, ⟨by decide +kernel, by decide +kernel, by decide +kernel⟩, by decide⟩
theorem lV_X5_222 : sm_lV RX5 222 yX3_areSoIn cX3_areSoIn 3 (some .boolean) 1 := ⟨⟨(gw_mem (i := 555) (by decide +kernel) rfl), (gw_mem (i := 556) (by decide +kernel) rfl), (gw_mem (i := 557) (by decide +kernel) rfl), (gw_mem (i := 35) (by decide +kernel) rfl), (gw_mem (i := 558) (by decide +kernel) rfl)⟩, ⟨by decide +kernel, by decide +kernel, by decide +kernel⟩, by decide⟩
theorem lS_X3_31 : sm_lS RX3 31 yX2_at cX2_at 2 (some .int) 2 := ⟨⟨(gw_mem (i := 559) (by decide +kernel) rfl), (gw_mem (i := 272) (by decide +kernel) rfl), (gw_mem (i := 42) (by decide +kernel) rfl), (gw_mem (i := 273) (by decide +kernel) rfl)⟩, ⟨by decide +kernel, by decide +kernel, by decide +kernel⟩, by decide⟩
theorem lV_X3_35 : sm_lV RX3 35 yX0_moveShip cX0_moveShip 3 none 2 := ⟨⟨(gw_mem (i := 560) (by decide +kernel) rfl), (gw_mem (i := 289) (by decide +kernel) rfl), (gw_mem (i := 290) (by decide +kernel) rfl), (gw_mem (i := 34) (by decide +kernel) rfl), (gw_mem (i := 291) (by decide +kernel) rfl)⟩, ⟨by decide +kernel, by decide +kernel, by decide +kernel⟩, by decide⟩
theorem lV_X3_41 : sm_lV RX3 41 yX0_goesTo cX0_goesTo 4 (some .int) 0 := ⟨⟨(gw_mem (i := 561) (by decide +kernel) rfl), (gw_mem (i := 415) (by decide +kernel) rfl), (gw_mem (i := 416) (by decide +kernel) rfl), (gw_mem (i := 34) (by decide +kernel) rfl), (gw_mem (i := 417) (by decide +kernel) rfl)⟩, ⟨by decide +kernel, by decide +kernel, by decide +kernel⟩, by decide⟩
theorem lV_L_109 : sm_lV RL 109 yX5_stowaway cX5_stowaway 7 (some .int) 1 := ⟨⟨(gw_mem (i := 562) (by decide +kernel) rfl), (gw_mem (i := 563) (by decide +kernel) rfl), (gw_mem (i := 564) (by decide +kernel) rfl), (gw_mem (i := 32) (by decide +kernel) rfl), (gw_mem (i := 565) (by decide +kernel) rfl)⟩, ⟨by decide +kernel, by decide +kernel, by decide +kernel⟩, by decide⟩
theorem lV_X5_219 : sm_lV RX5 219 yX0_addSailor cX0_addSailor 4 none 3 := ⟨⟨(gw_mem (i := 566) (by decide +kernel) rfl), (gw_mem (i := 311) (by decide +kernel) rfl), (gw_mem (i := 312) (by decide +kernel) rfl), (gw_mem (i := 34) (by decide +kernel) rfl), (gw_mem (i := 313) (by decide +kernel) rfl)⟩, ⟨by decide +kernel, by decide +kernel, by decide +kernel⟩, by decide⟩
theorem lV_L_113 : sm_lV RL 113 yX5_likely cX5_likely 8 (some .int) 3 := ⟨⟨(gw_mem (i := 567) (by decide +kernel) rfl), (gw_mem (i := 568) (by decide +kernel) rfl), (gw_mem (i := 569) (by decide +kernel) rfl), (gw_mem (i := 32) (by decide +kernel) rfl), (gw_mem (i := 570) (by decide +kernel) rfl)⟩, ⟨by decide +kernel, by decide +kernel, by decide +kernel⟩, by decide⟩
theorem lS_X5_225 : sm_lS RX5 225 yX5_cellOf cX5_cellOf 2 (some .int) 2 := ⟨⟨(gw_mem (i := 571) (by decide +kernel) rfl), (gw_mem (i := 572) (by decide +kernel) rfl), (gw_mem (i := 32) (by decide +kernel) rfl), (gw_mem (i := 573) (by decide +kernel) rfl)⟩, ⟨by decide +kernel, by decide +kernel, by decide +kernel⟩, by decide⟩
theorem lS_X5_228 : sm_lS RX5 228 yJ7_fill_53178 cJ7_fill_53178 4 none 2 := ⟨⟨(gw_mem (i := 574) (by decide +kernel) rfl), (gw_mem (i := 575) (by decide +kernel) rfl), (gw_mem (i := 46) (by decide +kernel) rfl), (gw_mem (i := 576) (by decide +kernel) rfl)⟩, ⟨by decide +kernel, by decide +kernel, by decide +kernel⟩, by decide⟩
theorem lV_X5_234 : sm_lV RX5 234 yX5_spreadAnHour cX5_spreadAnHour 7 none 1 := ⟨⟨(gw_mem (i := 577) (by decide +kernel) rfl), (gw_mem (i := 579) (by decide +kernel) rfl), (gw_mem (i := 2) (by decide +kernel) rfl), (gw_mem (i := 32) (by decide +kernel) rfl), (gw_mem (i := 580) (by decide +kernel) rfl)⟩, ⟨by decide +kernel, by decide +kernel, by decide +kernel⟩, by decide⟩
theorem lS_X5_246 : sm_lS RX5 246 yX2_copy cX2_copy 2 none 2 := ⟨⟨(gw_mem (i := 581) (by decide +kernel) rfl), (gw_mem (i := 362) (by decide +kernel) rfl), (gw_mem (i := 42) (by decide +kernel) rfl), (gw_mem (i := 363) (by decide +kernel) rfl)⟩, ⟨by decide +kernel, by decide +kernel, by decide +kernel⟩, by decide⟩
theorem lV_L_117 : sm_lV RL 117 yX5_voyage cX5_voyage 6 (some .int) 3 := ⟨⟨(gw_mem (i := 582) (by decide +kernel) rfl), (gw_mem (i := 583) (by decide +kernel) rfl), (gw_mem (i := 584) (by decide +kernel) rfl), (gw_mem (i := 32) (by decide +kernel) rfl), (gw_mem (i := 585) (by decide +kernel) rfl)⟩, ⟨by decide +kernel, by decide +kernel, by decide +kernel⟩, by decide⟩
theorem lS_X5_237 : sm_lS RX5 237 yX5_drawOf cX5_drawOf 4 (some .int) 2 := ⟨⟨(gw_mem (i := 586) (by decide +kernel) rfl), (gw_mem (i := 587) (by decide +kernel) rfl), (gw_mem (i := 32) (by decide +kernel) rfl), (gw_mem (i := 588) (by decide +kernel) rfl)⟩, ⟨by decide +kernel, by decide +kernel, by decide +kernel⟩, by decide⟩
theorem lV_X5_240 : sm_lV RX5 240 yX5_changeByDraw cX5_changeByDraw 3 none 1 := ⟨⟨(gw_mem (i := 593) (by decide +kernel) rfl), (gw_mem (i := 595) (by decide +kernel) rfl), (gw_mem (i := 3) (by decide +kernel) rfl), (gw_mem (i := 32) (by decide +kernel) rfl), (gw_mem (i := 596) (by decide +kernel) rfl)⟩, ⟨by decide +kernel, by decide +kernel, by decide +kernel⟩, by decide⟩
theorem lV_L_121 : sm_lV RL 121 yX5_keep cX5_keep 1 (some .int) 0 := ⟨⟨(gw_mem (i := 597) (by decide +kernel) rfl), (gw_mem (i := 598) (by decide +kernel) rfl), (gw_mem (i := 599) (by decide +kernel) rfl), (gw_mem (i := 32) (by decide +kernel) rfl), (gw_mem (i := 600) (by decide +kernel) rfl)⟩, ⟨by decide +kernel, by decide +kernel, by decide +kernel⟩, by decide⟩
theorem lV_L_125 : sm_lV RL 125 yX5_back cX5_back 1 (some .int) 0 := ⟨⟨(gw_mem (i := 601) (by decide +kernel) rfl), (gw_mem (i := 602) (by decide +kernel) rfl), (gw_mem (i := 603) (by decide +kernel) rfl), (gw_mem (i := 32) (by decide +kernel) rfl), (gw_mem (i := 604) (by decide +kernel) rfl)⟩, ⟨by decide +kernel, by decide +kernel, by decide +kernel⟩, by decide⟩
theorem lV_L_129 : sm_lV RL 129 yX5_count cX5_count 2 (some .int) 1 := ⟨⟨(gw_mem (i := 605) (by decide +kernel) rfl), (gw_mem (i := 606) (by decide +kernel) rfl), (gw_mem (i := 607) (by decide +kernel) rfl), (gw_mem (i := 32) (by decide +kernel) rfl), (gw_mem (i := 608) (by decide +kernel) rfl)⟩, ⟨by decide +kernel, by decide +kernel, by decide +kernel⟩, by decide⟩
theorem lV_X6_77 : sm_lV RX6 77 yX6_firstPost cX6_firstPost 4 none 3 := ⟨⟨(gw_mem (i := 615) (by decide +kernel) rfl), (gw_mem (i := 617) (by decide +kernel) rfl), (gw_mem (i := 4) (by decide +kernel) rfl), (gw_mem (i := 43) (by decide +kernel) rfl), (gw_mem (i := 618) (by decide +kernel) rfl)⟩, ⟨by decide +kernel, by decide +kernel, by decide +kernel⟩, by decide⟩
theorem lV_X6_87 : sm_lV RX6 87 yX6_setsPost cX6_setsPost 5 none 4 := ⟨⟨(gw_mem (i := 619) (by decide +kernel) rfl), (gw_mem (i := 621) (by decide +kernel) rfl), (gw_mem (i := 5) (by decide +kernel) rfl), (gw_mem (i := 43) (by decide +kernel) rfl), (gw_mem (i := 622) (by decide +kernel) rfl)⟩, ⟨by decide +kernel, by decide +kernel, by decide +kernel⟩, by decide⟩
theorem lV_X6_81 : sm_lV RX6 81 yX6_firstOne cX6_firstOne 4 none 3 := ⟨⟨(gw_mem (i := 623) (by decide +kernel) rfl), (gw_mem (i := 625) (by decide +kernel) rfl), (gw_mem (i := 6) (by decide +kernel) rfl), (gw_mem (i := 43) (by decide +kernel) rfl), (gw_mem (i := 626) (by decide +kernel) rfl)⟩, ⟨by decide +kernel, by decide +kernel, by decide +kernel⟩, by decide⟩
theorem lV_L_17 : sm_lV RL 17 yX6_write cX6_write 2 (some .int) 1 := ⟨⟨(gw_mem (i := 733) (by decide +kernel) rfl), (gw_mem (i := 734) (by decide +kernel) rfl), (gw_mem (i := 735) (by decide +kernel) rfl), (gw_mem (i := 43) (by decide +kernel) rfl), (gw_mem (i := 736) (by decide +kernel) rfl)⟩, ⟨by decide +kernel, by decide +kernel, by decide +kernel⟩, by decide⟩
theorem lS_X6_94 : sm_lS RX6 94 yX6_in cX6_in 3 (some .boolean) 3 := ⟨⟨(gw_mem (i := 737) (by decide +kernel) rfl), (gw_mem (i := 738) (by decide +kernel) rfl), (gw_mem (i := 43) (by decide +kernel) rfl), (gw_mem (i := 739) (by decide +kernel) rfl)⟩, ⟨by decide +kernel, by decide +kernel, by decide +kernel⟩, by decide⟩
theorem lV_L_22 : sm_lV RL 22 yX6_wipe cX6_wipe 2 (some .int) 0 := ⟨⟨(gw_mem (i := 740) (by decide +kernel) rfl), (gw_mem (i := 741) (by decide +kernel) rfl), (gw_mem (i := 742) (by decide +kernel) rfl), (gw_mem (i := 43) (by decide +kernel) rfl), (gw_mem (i := 743) (by decide +kernel) rfl)⟩, ⟨by decide +kernel, by decide +kernel, by decide +kernel⟩, by decide⟩
theorem lV_L_26 : sm_lV RL 26 yX6_fault cX6_fault 2 (some .int) 0 := ⟨⟨(gw_mem (i := 744) (by decide +kernel) rfl), (gw_mem (i := 745) (by decide +kernel) rfl), (gw_mem (i := 746) (by decide +kernel) rfl), (gw_mem (i := 43) (by decide +kernel) rfl), (gw_mem (i := 747) (by decide +kernel) rfl)⟩, ⟨by decide +kernel, by decide +kernel, by decide +kernel⟩, by decide⟩
theorem lV_X6_131 : sm_lV RX6 131 yX6_readsItem cX6_readsItem 3 (some .boolean) 0 := ⟨⟨(gw_mem (i := 748) (by decide +kernel) rfl), (gw_mem (i := 750) (by decide +kernel) rfl), (gw_mem (i := 7) (by decide +kernel) rfl), (gw_mem (i := 43) (by decide +kernel) rfl), (gw_mem (i := 751) (by decide +kernel) rfl)⟩, ⟨by decide +kernel, by decide +kernel, by decide +kernel⟩, by decide⟩
theorem lV_X6_104 : sm_lV RX6 104 yX6_here cX6_here 1 (some .int) 0 := ⟨⟨(gw_mem (i := 752) (by decide +kernel) rfl), (gw_mem (i := 754) (by decide +kernel) rfl), (gw_mem (i := 8) (by decide +kernel) rfl), (gw_mem (i := 43) (by decide +kernel) rfl), (gw_mem (i := 755) (by decide +kernel) rfl)⟩, ⟨by decide +kernel, by decide +kernel, by decide +kernel⟩, by decide⟩
theorem lV_X6_118 : sm_lV RX6 118 yX6_three cX6_three 7 (some .boolean) 6 := ⟨⟨(gw_mem (i := 756) (by decide +kernel) rfl), (gw_mem (i := 758) (by decide +kernel) rfl), (gw_mem (i := 9) (by decide +kernel) rfl), (gw_mem (i := 43) (by decide +kernel) rfl), (gw_mem (i := 759) (by decide +kernel) rfl)⟩, ⟨by decide +kernel, by decide +kernel, by decide +kernel⟩, by decide⟩
theorem lV_X6_115 : sm_lV RX6 115 yX6_number cX6_number 5 (some .boolean) 3 := ⟨⟨(gw_mem (i := 760) (by decide +kernel) rfl), (gw_mem (i := 762) (by decide +kernel) rfl), (gw_mem (i := 10) (by decide +kernel) rfl), (gw_mem (i := 43) (by decide +kernel) rfl), (gw_mem (i := 763) (by decide +kernel) rfl)⟩, ⟨by decide +kernel, by decide +kernel, by decide +kernel⟩, by decide⟩
theorem lV_X6_108 : sm_lV RX6 108 yX6_isFigure cX6_isFigure 1 (some .boolean) 0 := ⟨⟨(gw_mem (i := 764) (by decide +kernel) rfl), (gw_mem (i := 766) (by decide +kernel) rfl), (gw_mem (i := 11) (by decide +kernel) rfl), (gw_mem (i := 43) (by decide +kernel) rfl), (gw_mem (i := 767) (by decide +kernel) rfl)⟩, ⟨by decide +kernel, by decide +kernel, by decide +kernel⟩, by decide⟩
theorem lV_X6_122 : sm_lV RX6 122 yX6_readsWind cX6_readsWind 1 (some .boolean) 0 := ⟨⟨(gw_mem (i := 768) (by decide +kernel) rfl), (gw_mem (i := 770) (by decide +kernel) rfl), (gw_mem (i := 12) (by decide +kernel) rfl), (gw_mem (i := 43) (by decide +kernel) rfl), (gw_mem (i := 771) (by decide +kernel) rfl)⟩, ⟨by decide +kernel, by decide +kernel, by decide +kernel⟩, by decide⟩
theorem lV_L_30 : sm_lV RL 30 yX6_lay cX6_lay 2 (some .int) 0 := ⟨⟨(gw_mem (i := 772) (by decide +kernel) rfl), (gw_mem (i := 773) (by decide +kernel) rfl), (gw_mem (i := 774) (by decide +kernel) rfl), (gw_mem (i := 43) (by decide +kernel) rfl), (gw_mem (i := 775) (by decide +kernel) rfl)⟩, ⟨by decide +kernel, by decide +kernel, by decide +kernel⟩, by decide⟩
theorem lV_X6_134 : sm_lV RX6 134 yX6_fault cX6_fault 2 (some .int) 0 := ⟨⟨(gw_mem (i := 776) (by decide +kernel) rfl), (gw_mem (i := 745) (by decide +kernel) rfl), (gw_mem (i := 746) (by decide +kernel) rfl), (gw_mem (i := 43) (by decide +kernel) rfl), (gw_mem (i := 747) (by decide +kernel) rfl)⟩, ⟨by decide +kernel, by decide +kernel, by decide +kernel⟩, by decide⟩
theorem lV_L_35 : sm_lV RL 35 yX6_post cX6_post 3 (some .int) 2 := ⟨⟨(gw_mem (i := 777) (by decide +kernel) rfl), (gw_mem (i := 778) (by decide +kernel) rfl), (gw_mem (i := 779) (by decide +kernel) rfl), (gw_mem (i := 43) (by decide +kernel) rfl), (gw_mem (i := 780) (by decide +kernel) rfl)⟩, ⟨by decide +kernel, by decide +kernel, by decide +kernel⟩, by decide⟩
theorem lV_X6_189 : sm_lV RX6 189 yX6_isPost cX6_isPost 2 (some .boolean) 1 := ⟨⟨(gw_mem (i := 781) (by decide +kernel) rfl), (gw_mem (i := 783) (by decide +kernel) rfl), (gw_mem (i := 13) (by decide +kernel) rfl), (gw_mem (i := 43) (by decide +kernel) rfl), (gw_mem (i := 784) (by decide +kernel) rfl)⟩, ⟨by decide +kernel, by decide +kernel, by decide +kernel⟩, by decide⟩
theorem lV_L_39 : sm_lV RL 39 yX6_crew cX6_crew 3 (some .int) 2 := ⟨⟨(gw_mem (i := 785) (by decide +kernel) rfl), (gw_mem (i := 786) (by decide +kernel) rfl), (gw_mem (i := 787) (by decide +kernel) rfl), (gw_mem (i := 43) (by decide +kernel) rfl), (gw_mem (i := 788) (by decide +kernel) rfl)⟩, ⟨by decide +kernel, by decide +kernel, by decide +kernel⟩, by decide⟩
theorem lV_X6_193 : sm_lV RX6 193 yX6_isOne cX6_isOne 2 (some .boolean) 1 := ⟨⟨(gw_mem (i := 789) (by decide +kernel) rfl), (gw_mem (i := 791) (by decide +kernel) rfl), (gw_mem (i := 14) (by decide +kernel) rfl), (gw_mem (i := 43) (by decide +kernel) rfl), (gw_mem (i := 792) (by decide +kernel) rfl)⟩, ⟨by decide +kernel, by decide +kernel, by decide +kernel⟩, by decide⟩
theorem lV_X6_159 : sm_lV RX6 159 yX6_nearest cX6_nearest 5 (some .int) 1 := ⟨⟨(gw_mem (i := 793) (by decide +kernel) rfl), (gw_mem (i := 795) (by decide +kernel) rfl), (gw_mem (i := 15) (by decide +kernel) rfl), (gw_mem (i := 43) (by decide +kernel) rfl), (gw_mem (i := 796) (by decide +kernel) rfl)⟩, ⟨by decide +kernel, by decide +kernel, by decide +kernel⟩, by decide⟩
theorem lV_X6_156 : sm_lV RX6 156 yX6_farTo cX6_farTo 2 (some .int) 1 := ⟨⟨(gw_mem (i := 797) (by decide +kernel) rfl), (gw_mem (i := 799) (by decide +kernel) rfl), (gw_mem (i := 16) (by decide +kernel) rfl), (gw_mem (i := 43) (by decide +kernel) rfl), (gw_mem (i := 800) (by decide +kernel) rfl)⟩, ⟨by decide +kernel, by decide +kernel, by decide +kernel⟩, by decide⟩
theorem lS_X6_149 : sm_lS RX6 149 yX6_far cX6_far 1 (some .int) 1 := ⟨⟨(gw_mem (i := 801) (by decide +kernel) rfl), (gw_mem (i := 802) (by decide +kernel) rfl), (gw_mem (i := 43) (by decide +kernel) rfl), (gw_mem (i := 803) (by decide +kernel) rfl)⟩, ⟨by decide +kernel, by decide +kernel, by decide +kernel⟩, by decide⟩
theorem lV_X6_166 : sm_lV RX6 166 yX6_strength cX6_strength 3 (some .int) 1 := ⟨⟨(gw_mem (i := 804) (by decide +kernel) rfl), (gw_mem (i := 806) (by decide +kernel) rfl), (gw_mem (i := 17) (by decide +kernel) rfl), (gw_mem (i := 43) (by decide +kernel) rfl), (gw_mem (i := 807) (by decide +kernel) rfl)⟩, ⟨by decide +kernel, by decide +kernel, by decide +kernel⟩, by decide⟩
theorem lS_X6_162 : sm_lS RX6 162 yX6_strengthBy cX6_strengthBy 3 (some .int) 3 := ⟨⟨(gw_mem (i := 808) (by decide +kernel) rfl), (gw_mem (i := 809) (by decide +kernel) rfl), (gw_mem (i := 43) (by decide +kernel) rfl), (gw_mem (i := 810) (by decide +kernel) rfl)⟩, ⟨by decide +kernel, by decide +kernel, by decide +kernel⟩, by decide⟩
theorem lV_X6_172 : sm_lV RX6 172 yX6_towards cX6_towards 5 (some .int) 1 := ⟨⟨(gw_mem (i := 811) (by decide +kernel) rfl), (gw_mem (i := 813) (by decide +kernel) rfl), (gw_mem (i := 18) (by decide +kernel) rfl), (gw_mem (i := 43) (by decide +kernel) rfl), (gw_mem (i := 814) (by decide +kernel) rfl)⟩, ⟨by decide +kernel, by decide +kernel, by decide +kernel⟩, by decide⟩
theorem lV_L_43 : sm_lV RL 43 yX6_pull cX6_pull 2 (some .int) 1 := ⟨⟨(gw_mem (i := 815) (by decide +kernel) rfl), (gw_mem (i := 816) (by decide +kernel) rfl), (gw_mem (i := 817) (by decide +kernel) rfl), (gw_mem (i := 43) (by decide +kernel) rfl), (gw_mem (i := 818) (by decide +kernel) rfl)⟩, ⟨by decide +kernel, by decide +kernel, by decide +kernel⟩, by decide⟩
theorem lV_X6_175 : sm_lV RX6 175 yX6_pullBy cX6_pullBy 6 (some .int) 2 := ⟨⟨(gw_mem (i := 819) (by decide +kernel) rfl), (gw_mem (i := 821) (by decide +kernel) rfl), (gw_mem (i := 19) (by decide +kernel) rfl), (gw_mem (i := 43) (by decide +kernel) rfl), (gw_mem (i := 822) (by decide +kernel) rfl)⟩, ⟨by decide +kernel, by decide +kernel, by decide +kernel⟩, by decide⟩
theorem lV_X6_183 : sm_lV RX6 183 yX6_goesTo cX6_goesTo 6 (some .int) 0 := ⟨⟨(gw_mem (i := 823) (by decide +kernel) rfl), (gw_mem (i := 825) (by decide +kernel) rfl), (gw_mem (i := 20) (by decide +kernel) rfl), (gw_mem (i := 43) (by decide +kernel) rfl), (gw_mem (i := 826) (by decide +kernel) rfl)⟩, ⟨by decide +kernel, by decide +kernel, by decide +kernel⟩, by decide⟩
theorem lS_X6_179 : sm_lS RX6 179 yX6_isCell cX6_isCell 2 (some .boolean) 2 := ⟨⟨(gw_mem (i := 827) (by decide +kernel) rfl), (gw_mem (i := 828) (by decide +kernel) rfl), (gw_mem (i := 43) (by decide +kernel) rfl), (gw_mem (i := 829) (by decide +kernel) rfl)⟩, ⟨by decide +kernel, by decide +kernel, by decide +kernel⟩, by decide⟩
theorem lV_L_47 : sm_lV RL 47 yX6_pass cX6_pass 5 (some .int) 1 := ⟨⟨(gw_mem (i := 830) (by decide +kernel) rfl), (gw_mem (i := 831) (by decide +kernel) rfl), (gw_mem (i := 832) (by decide +kernel) rfl), (gw_mem (i := 43) (by decide +kernel) rfl), (gw_mem (i := 833) (by decide +kernel) rfl)⟩, ⟨by decide +kernel, by decide +kernel, by decide +kernel⟩, by decide⟩
theorem lV_X6_200 : sm_lV RX6 200 yX6_notes cX6_notes 2 none 0 := ⟨⟨(gw_mem (i := 834) (by decide +kernel) rfl), (gw_mem (i := 836) (by decide +kernel) rfl), (gw_mem (i := 21) (by decide +kernel) rfl), (gw_mem (i := 43) (by decide +kernel) rfl), (gw_mem (i := 837) (by decide +kernel) rfl)⟩, ⟨by decide +kernel, by decide +kernel, by decide +kernel⟩, by decide⟩
theorem lV_X6_196 : sm_lV RX6 196 yX6_lays cX6_lays 4 none 2 := ⟨⟨(gw_mem (i := 838) (by decide +kernel) rfl), (gw_mem (i := 840) (by decide +kernel) rfl), (gw_mem (i := 22) (by decide +kernel) rfl), (gw_mem (i := 43) (by decide +kernel) rfl), (gw_mem (i := 841) (by decide +kernel) rfl)⟩, ⟨by decide +kernel, by decide +kernel, by decide +kernel⟩, by decide⟩
theorem lV_X6_186 : sm_lV RX6 186 yX6_passes cX6_passes 2 (some .boolean) 0 := ⟨⟨(gw_mem (i := 842) (by decide +kernel) rfl), (gw_mem (i := 844) (by decide +kernel) rfl), (gw_mem (i := 23) (by decide +kernel) rfl), (gw_mem (i := 43) (by decide +kernel) rfl), (gw_mem (i := 845) (by decide +kernel) rfl)⟩, ⟨by decide +kernel, by decide +kernel, by decide +kernel⟩, by decide⟩
theorem lV_L_51 : sm_lV RL 51 yX6_wind cX6_wind 4 (some .int) 2 := ⟨⟨(gw_mem (i := 846) (by decide +kernel) rfl), (gw_mem (i := 847) (by decide +kernel) rfl), (gw_mem (i := 848) (by decide +kernel) rfl), (gw_mem (i := 43) (by decide +kernel) rfl), (gw_mem (i := 849) (by decide +kernel) rfl)⟩, ⟨by decide +kernel, by decide +kernel, by decide +kernel⟩, by decide⟩
theorem lV_L_56 : sm_lV RL 56 yX6_put cX6_put 5 (some .int) 3 := ⟨⟨(gw_mem (i := 850) (by decide +kernel) rfl), (gw_mem (i := 851) (by decide +kernel) rfl), (gw_mem (i := 852) (by decide +kernel) rfl), (gw_mem (i := 43) (by decide +kernel) rfl), (gw_mem (i := 853) (by decide +kernel) rfl)⟩, ⟨by decide +kernel, by decide +kernel, by decide +kernel⟩, by decide⟩
theorem lV_L_60 : sm_lV RL 60 yX6_smell cX6_smell 4 (some .int) 2 := ⟨⟨(gw_mem (i := 854) (by decide +kernel) rfl), (gw_mem (i := 855) (by decide +kernel) rfl), (gw_mem (i := 856) (by decide +kernel) rfl), (gw_mem (i := 43) (by decide +kernel) rfl), (gw_mem (i := 857) (by decide +kernel) rfl)⟩, ⟨by decide +kernel, by decide +kernel, by decide +kernel⟩, by decide⟩
theorem lV_L_64 : sm_lV RL 64 yX6_take cX6_take 2 (some .int) 1 := ⟨⟨(gw_mem (i := 858) (by decide +kernel) rfl), (gw_mem (i := 859) (by decide +kernel) rfl), (gw_mem (i := 860) (by decide +kernel) rfl), (gw_mem (i := 43) (by decide +kernel) rfl), (gw_mem (i := 861) (by decide +kernel) rfl)⟩, ⟨by decide +kernel, by decide +kernel, by decide +kernel⟩, by decide⟩
theorem lV_X6_203 : sm_lV RX6 203 yX6_left cX6_left 3 (some .int) 0 := ⟨⟨(gw_mem (i := 862) (by decide +kernel) rfl), (gw_mem (i := 864) (by decide +kernel) rfl), (gw_mem (i := 24) (by decide +kernel) rfl), (gw_mem (i := 43) (by decide +kernel) rfl), (gw_mem (i := 865) (by decide +kernel) rfl)⟩, ⟨by decide +kernel, by decide +kernel, by decide +kernel⟩, by decide⟩
theorem lV_L_68 : sm_lV RL 68 yX6_undo cX6_undo 1 (some .int) 0 := ⟨⟨(gw_mem (i := 866) (by decide +kernel) rfl), (gw_mem (i := 867) (by decide +kernel) rfl), (gw_mem (i := 868) (by decide +kernel) rfl), (gw_mem (i := 43) (by decide +kernel) rfl), (gw_mem (i := 869) (by decide +kernel) rfl)⟩, ⟨by decide +kernel, by decide +kernel, by decide +kernel⟩, by decide⟩
theorem lV_X6_206 : sm_lV RX6 206 yX6_takes cX6_takes 4 none 2 := ⟨⟨(gw_mem (i := 870) (by decide +kernel) rfl), (gw_mem (i := 872) (by decide +kernel) rfl), (gw_mem (i := 25) (by decide +kernel) rfl), (gw_mem (i := 43) (by decide +kernel) rfl), (gw_mem (i := 873) (by decide +kernel) rfl)⟩, ⟨by decide +kernel, by decide +kernel, by decide +kernel⟩, by decide⟩
theorem lV_L_72 : sm_lV RL 72 yX6_behind cX6_behind 4 (some .int) 2 := ⟨⟨(gw_mem (i := 874) (by decide +kernel) rfl), (gw_mem (i := 875) (by decide +kernel) rfl), (gw_mem (i := 876) (by decide +kernel) rfl), (gw_mem (i := 43) (by decide +kernel) rfl), (gw_mem (i := 877) (by decide +kernel) rfl)⟩, ⟨by decide +kernel, by decide +kernel, by decide +kernel⟩, by decide⟩
theorem lV_X6_209 : sm_lV RX6 209 yX6_puts cX6_puts 1 none 0 := ⟨⟨(gw_mem (i := 878) (by decide +kernel) rfl), (gw_mem (i := 880) (by decide +kernel) rfl), (gw_mem (i := 26) (by decide +kernel) rfl), (gw_mem (i := 43) (by decide +kernel) rfl), (gw_mem (i := 881) (by decide +kernel) rfl)⟩, ⟨by decide +kernel, by decide +kernel, by decide +kernel⟩, by decide⟩
theorem lV_X6_212 : sm_lV RX6 212 yX6_goesOn cX6_goesOn 3 none 1 := ⟨⟨(gw_mem (i := 882) (by decide +kernel) rfl), (gw_mem (i := 884) (by decide +kernel) rfl), (gw_mem (i := 27) (by decide +kernel) rfl), (gw_mem (i := 43) (by decide +kernel) rfl), (gw_mem (i := 885) (by decide +kernel) rfl)⟩, ⟨by decide +kernel, by decide +kernel, by decide +kernel⟩, by decide⟩
theorem lV_X6_216 : sm_lV RX6 216 yX6_puttingBack cX6_puttingBack 1 none 0 := ⟨⟨(gw_mem (i := 886) (by decide +kernel) rfl), (gw_mem (i := 888) (by decide +kernel) rfl), (gw_mem (i := 28) (by decide +kernel) rfl), (gw_mem (i := 43) (by decide +kernel) rfl), (gw_mem (i := 889) (by decide +kernel) rfl)⟩, ⟨by decide +kernel, by decide +kernel, by decide +kernel⟩, by decide⟩
theorem lV_L_76 : sm_lV RL 76 yX6_stands cX6_stands 2 (some .int) 0 := ⟨⟨(gw_mem (i := 890) (by decide +kernel) rfl), (gw_mem (i := 891) (by decide +kernel) rfl), (gw_mem (i := 892) (by decide +kernel) rfl), (gw_mem (i := 43) (by decide +kernel) rfl), (gw_mem (i := 893) (by decide +kernel) rfl)⟩, ⟨by decide +kernel, by decide +kernel, by decide +kernel⟩, by decide⟩
theorem lV_L_80 : sm_lV RL 80 yX6_gale cX6_gale 3 (some .int) 1 := ⟨⟨(gw_mem (i := 894) (by decide +kernel) rfl), (gw_mem (i := 895) (by decide +kernel) rfl), (gw_mem (i := 896) (by decide +kernel) rfl), (gw_mem (i := 43) (by decide +kernel) rfl), (gw_mem (i := 897) (by decide +kernel) rfl)⟩, ⟨by decide +kernel, by decide +kernel, by decide +kernel⟩, by decide⟩
theorem lV_L_84 : sm_lV RL 84 yX6_hold cX6_hold 7 (some .int) 0 := ⟨⟨(gw_mem (i := 898) (by decide +kernel) rfl), (gw_mem (i := 899) (by decide +kernel) rfl), (gw_mem (i := 900) (by decide +kernel) rfl), (gw_mem (i := 43) (by decide +kernel) rfl), (gw_mem (i := 901) (by decide +kernel) rfl)⟩, ⟨by decide +kernel, by decide +kernel, by decide +kernel⟩, by decide⟩
theorem lV_L_88 : sm_lV RL 88 yX6_brings cX6_brings 10 (some .int) 3 := ⟨⟨(gw_mem (i := 902) (by decide +kernel) rfl), (gw_mem (i := 903) (by decide +kernel) rfl), (gw_mem (i := 904) (by decide +kernel) rfl), (gw_mem (i := 43) (by decide +kernel) rfl), (gw_mem (i := 905) (by decide +kernel) rfl)⟩, ⟨by decide +kernel, by decide +kernel, by decide +kernel⟩, by decide⟩
theorem lV_L_92 : sm_lV RL 92 yX6_keeps cX6_keeps 7 (some .int) 1 := ⟨⟨(gw_mem (i := 906) (by decide +kernel) rfl), (gw_mem (i := 907) (by decide +kernel) rfl), (gw_mem (i := 908) (by decide +kernel) rfl), (gw_mem (i := 43) (by decide +kernel) rfl), (gw_mem (i := 909) (by decide +kernel) rfl)⟩, ⟨by decide +kernel, by decide +kernel, by decide +kernel⟩, by decide⟩
theorem lV_X6_222 : sm_lV RX6 222 yX6_endBy cX6_endBy 3 (some .int) 1 := ⟨⟨(gw_mem (i := 910) (by decide +kernel) rfl), (gw_mem (i := 912) (by decide +kernel) rfl), (gw_mem (i := 29) (by decide +kernel) rfl), (gw_mem (i := 43) (by decide +kernel) rfl), (gw_mem (i := 913) (by decide +kernel) rfl)⟩, ⟨by decide +kernel, by decide +kernel, by decide +kernel⟩, by decide⟩
theorem lS_X6_219 : sm_lS RX6 219 yX6_has cX6_has 2 (some .boolean) 2 := ⟨⟨(gw_mem (i := 914) (by decide +kernel) rfl), (gw_mem (i := 915) (by decide +kernel) rfl), (gw_mem (i := 43) (by decide +kernel) rfl), (gw_mem (i := 916) (by decide +kernel) rfl)⟩, ⟨by decide +kernel, by decide +kernel, by decide +kernel⟩, by decide⟩
theorem lS_X6_225 : sm_lS RX6 225 yX6_bits cX6_bits 3 (some .int) 1 := ⟨⟨(gw_mem (i := 917) (by decide +kernel) rfl), (gw_mem (i := 918) (by decide +kernel) rfl), (gw_mem (i := 43) (by decide +kernel) rfl), (gw_mem (i := 919) (by decide +kernel) rfl)⟩, ⟨by decide +kernel, by decide +kernel, by decide +kernel⟩, by decide⟩
theorem lV_L_96 : sm_lV RL 96 yX6_instead cX6_instead 5 (some .int) 0 := ⟨⟨(gw_mem (i := 920) (by decide +kernel) rfl), (gw_mem (i := 921) (by decide +kernel) rfl), (gw_mem (i := 922) (by decide +kernel) rfl), (gw_mem (i := 43) (by decide +kernel) rfl), (gw_mem (i := 923) (by decide +kernel) rfl)⟩, ⟨by decide +kernel, by decide +kernel, by decide +kernel⟩, by decide⟩
theorem lV_L_100 : sm_lV RL 100 yX6_seen cX6_seen 4 (some .int) 3 := ⟨⟨(gw_mem (i := 924) (by decide +kernel) rfl), (gw_mem (i := 925) (by decide +kernel) rfl), (gw_mem (i := 926) (by decide +kernel) rfl), (gw_mem (i := 43) (by decide +kernel) rfl), (gw_mem (i := 927) (by decide +kernel) rfl)⟩, ⟨by decide +kernel, by decide +kernel, by decide +kernel⟩, by decide⟩
theorem lV_L_104 : sm_lV RL 104 yX6_forget cX6_forget 2 (some .int) 0 := ⟨⟨(gw_mem (i := 928) (by decide +kernel) rfl), (gw_mem (i := 929) (by decide +kernel) rfl), (gw_mem (i := 930) (by decide +kernel) rfl), (gw_mem (i := 43) (by decide +kernel) rfl), (gw_mem (i := 931) (by decide +kernel) rfl)⟩, ⟨by decide +kernel, by decide +kernel, by decide +kernel⟩, by decide⟩
theorem lV_L_108 : sm_lV RL 108 yX6_may cX6_may 10 (some .int) 2 := ⟨⟨(gw_mem (i := 932) (by decide +kernel) rfl), (gw_mem (i := 933) (by decide +kernel) rfl), (gw_mem (i := 934) (by decide +kernel) rfl), (gw_mem (i := 43) (by decide +kernel) rfl), (gw_mem (i := 935) (by decide +kernel) rfl)⟩, ⟨by decide +kernel, by decide +kernel, by decide +kernel⟩, by decide⟩
theorem lV_X6_228 : sm_lV RX6 228 yX6_isSo cX6_isSo 5 (some .boolean) 0 := ⟨⟨(gw_mem (i := 936) (by decide +kernel) rfl), (gw_mem (i := 938) (by decide +kernel) rfl), (gw_mem (i := 30) (by decide +kernel) rfl), (gw_mem (i := 43) (by decide +kernel) rfl), (gw_mem (i := 939) (by decide +kernel) rfl)⟩, ⟨by decide +kernel, by decide +kernel, by decide +kernel⟩, by decide⟩
theorem lV_L_112 : sm_lV RL 112 yX6_stowaway cX6_stowaway 7 (some .int) 1 := ⟨⟨(gw_mem (i := 940) (by decide +kernel) rfl), (gw_mem (i := 941) (by decide +kernel) rfl), (gw_mem (i := 942) (by decide +kernel) rfl), (gw_mem (i := 43) (by decide +kernel) rfl), (gw_mem (i := 943) (by decide +kernel) rfl)⟩, ⟨by decide +kernel, by decide +kernel, by decide +kernel⟩, by decide⟩
theorem lV_L_116 : sm_lV RL 116 yX6_likely cX6_likely 15 (some .int) 3 := ⟨⟨(gw_mem (i := 944) (by decide +kernel) rfl), (gw_mem (i := 945) (by decide +kernel) rfl), (gw_mem (i := 946) (by decide +kernel) rfl), (gw_mem (i := 43) (by decide +kernel) rfl), (gw_mem (i := 947) (by decide +kernel) rfl)⟩, ⟨by decide +kernel, by decide +kernel, by decide +kernel⟩, by decide⟩
theorem lS_X6_233 : sm_lS RX6 233 yX6_common cX6_common 10 (some .long) 2 := ⟨⟨(gw_mem (i := 949) (by decide +kernel) rfl), (gw_mem (i := 950) (by decide +kernel) rfl), (gw_mem (i := 43) (by decide +kernel) rfl), (gw_mem (i := 951) (by decide +kernel) rfl)⟩, ⟨by decide +kernel, by decide +kernel, by decide +kernel⟩, by decide⟩
theorem lV_L_120 : sm_lV RL 120 yX6_voyage cX6_voyage 10 (some .int) 3 := ⟨⟨(gw_mem (i := 952) (by decide +kernel) rfl), (gw_mem (i := 953) (by decide +kernel) rfl), (gw_mem (i := 954) (by decide +kernel) rfl), (gw_mem (i := 43) (by decide +kernel) rfl), (gw_mem (i := 955) (by decide +kernel) rfl)⟩, ⟨by decide +kernel, by decide +kernel, by decide +kernel⟩, by decide⟩
theorem lV_L_124 : sm_lV RL 124 yX6_keep cX6_keep 1 (some .int) 0 := ⟨⟨(gw_mem (i := 960) (by decide +kernel) rfl), (gw_mem (i := 961) (by decide +kernel) rfl), (gw_mem (i := 962) (by decide +kernel) rfl), (gw_mem (i := 43) (by decide +kernel) rfl), (gw_mem (i := 963) (by decide +kernel) rfl)⟩, ⟨by decide +kernel, by decide +kernel, by decide +kernel⟩, by decide⟩
theorem lV_L_128 : sm_lV RL 128 yX6_back cX6_back 1 (some .int) 0 := ⟨⟨(gw_mem (i := 964) (by decide +kernel) rfl), (gw_mem (i := 965) (by decide +kernel) rfl), (gw_mem (i := 966) (by decide +kernel) rfl), (gw_mem (i := 43) (by decide +kernel) rfl), (gw_mem (i := 967) (by decide +kernel) rfl)⟩, ⟨by decide +kernel, by decide +kernel, by decide +kernel⟩, by decide⟩
theorem lV_L_132 : sm_lV RL 132 yX6_count cX6_count 2 (some .int) 1 := ⟨⟨(gw_mem (i := 968) (by decide +kernel) rfl), (gw_mem (i := 969) (by decide +kernel) rfl), (gw_mem (i := 970) (by decide +kernel) rfl), (gw_mem (i := 43) (by decide +kernel) rfl), (gw_mem (i := 971) (by decide +kernel) rfl)⟩, ⟨by decide +kernel, by decide +kernel, by decide +kernel⟩, by decide⟩
theorem lN_X4_65 : sm_lN yX5_within cX5_within 3 (some .boolean) 3 := ⟨⟨(gw_mem (i := 279) (by decide +kernel) rfl), (gw_mem (i := 32) (by decide +kernel) rfl), (gw_mem (i := 280) (by decide +kernel) rfl)⟩, ⟨by decide +kernel, by decide +kernel, by decide +kernel⟩, by decide⟩
theorem lN_X4_75 : sm_lN yX5_isCell cX5_isCell 2 (some .boolean) 2 := ⟨⟨(gw_mem (i := 286) (by decide +kernel) rfl), (gw_mem (i := 32) (by decide +kernel) rfl), (gw_mem (i := 287) (by decide +kernel) rfl)⟩, ⟨by decide +kernel, by decide +kernel, by decide +kernel⟩, by decide⟩
theorem lN_X0_121 : sm_lN yX5_isCell cX5_isCell 2 (some .boolean) 2 := ⟨⟨(gw_mem (i := 286) (by decide +kernel) rfl), (gw_mem (i := 32) (by decide +kernel) rfl), (gw_mem (i := 287) (by decide +kernel) rfl)⟩, ⟨by decide +kernel, by decide +kernel, by decide +kernel⟩, by decide⟩
theorem kc_J6_265 : Cond.constant RJ6 265 1431655765 ∈ gw := (gw_mem (i := 474) (by decide +kernel) rfl)
theorem kc_J6_266 : Cond.constant RJ6 266 858993459 ∈ gw := (gw_mem (i := 475) (by decide +kernel) rfl)
theorem kc_J6_267 : Cond.constant RJ6 267 252645135 ∈ gw := (gw_mem (i := 476) (by decide +kernel) rfl)
theorem kl_X5_250 : Cond.constantLong RX5 250 7919 ∈ gw := (gw_mem (i := 589) (by decide +kernel) rfl)
theorem kl_X5_252 : Cond.constantLong RX5 252 6151 ∈ gw := (gw_mem (i := 590) (by decide +kernel) rfl)
theorem kl_X5_254 : Cond.constantLong RX5 254 65521 ∈ gw := (gw_mem (i := 591) (by decide +kernel) rfl)
theorem kl_X5_256 : Cond.constantLong RX5 256 2 ∈ gw := (gw_mem (i := 592) (by decide +kernel) rfl)
theorem kl_X6_231 : Cond.constantLong RX6 231 10 ∈ gw := (gw_mem (i := 948) (by decide +kernel) rfl)
theorem kl_X6_237 : Cond.constantLong RX6 237 7919 ∈ gw := (gw_mem (i := 956) (by decide +kernel) rfl)
theorem kl_X6_239 : Cond.constantLong RX6 239 6151 ∈ gw := (gw_mem (i := 957) (by decide +kernel) rfl)
theorem kl_X6_241 : Cond.constantLong RX6 241 65521 ∈ gw := (gw_mem (i := 958) (by decide +kernel) rfl)
theorem kl_X6_243 : Cond.constantLong RX6 243 2 ∈ gw := (gw_mem (i := 959) (by decide +kernel) rfl)
end
section
/-! small rows for the walks -/
def sm_has (lv : List (Nat × Value)) (l : List (Nat × Value)) : Prop := match l with
  | [] => True
  | q :: t => sm_lk lv q.1 = some q.2 ∧ sm_has lv t
theorem sm_has_mem {lv : List (Nat × Value)} : ∀ {l : List (Nat × Value)}, sm_has lv l → ∀ q ∈ l, sm_lk lv q.1 = some q.2
  | [], _, _, h => by cases h
  | a :: t, h, q, hq => by
    rcases List.mem_cons.mp hq with rfl | hq
    · exact h.1
    · exact sm_has_mem h.2 q hq
theorem sm_e {lv : List (Nat × Value)} {i : Nat} {x y : Int32} (h : sm_lk lv i = some (.int x)) (e : x = y) : sm_lk lv i = some (.int y) := e ▸ h
theorem sm_el {lv : List (Nat × Value)} {i : Nat} {x y : Int64} (h : sm_lk lv i = some (.long x)) (e : x = y) : sm_lk lv i = some (.long y) := e ▸ h
theorem sm_i1 : Int32.ofInt 1 = 1 := by decide
theorem sm_im1 : Int32.ofInt (-1) = -1 := by decide
theorem sw_lv {own : String} {cc : ByteArray} {nL d : Nat} {ret : Option FieldType} {r : Option Value} {σ' σ : sm_St} {pc : Nat} {lv lv' : List (Nat × Value)} {st : List Value} (k : sm_W own cc nL ret d r σ' pc lv' st σ) (h : sm_has lv lv') : sm_W own cc nL ret d r σ' pc lv st σ := by
  intro p l e s m args below meth c ρ D cI cF A H locs ls X hl hP hD hS
  refine k X ⟨hl.1, hl.2.1, fun q hq => ?_⟩ hP hD hS
  obtain ⟨q0, h0, rfl⟩ := List.mem_map.mp hq
  exact sm_lk_at hl (sm_has_mem h q0 h0)
theorem sw_st {own : String} {cc : ByteArray} {nL d : Nat} {ret : Option FieldType} {r : Option Value} {σ' σ σ2 : sm_St} {pc : Nat} {lv : List (Nat × Value)} {st : List Value} (e : σ = σ2) (k : sm_W own cc nL ret d r σ' pc lv st σ2) : sm_W own cc nL ret d r σ' pc lv st σ := e ▸ k
/-- the number on top, under another name -/
theorem sw_top {own : String} {cc : ByteArray} {nL d : Nat} {ret : Option FieldType} {r : Option Value} {σ' σ : sm_St} {pc : Nat} {lv : List (Nat × Value)} {st : List Value} {x y : Int32} (e : x = y) (k : sm_W own cc nL ret d r σ' pc lv (.int y :: st) σ) : sm_W own cc nL ret d r σ' pc lv (.int x :: st) σ := e ▸ k
theorem sw_ifnonnull {own : String} {cc : ByteArray} {nL d : Nat} {ret : Option FieldType} {r : Option Value} {σ' σ : sm_St} {pc : Nat} {lv : List (Nat × Value)} {st : List Value} {x : Nat} {off : Int} {tgt : Nat} (hd : decode cc pc = .ok (.ifnonnull off, 3)) (ht : (pc : Int) + off = (tgt : Int)) (k : sm_W own cc nL ret d r σ' tgt lv st σ) : sm_W own cc nL ret d r σ' pc lv (.ref x :: st) σ := by
  intro p l e s m args below meth c ρ D cI cF A H locs ls X hl hP hD hS
  exact lv_ifnonnull X.1 X.2.1 hd ht (k X hl hP hD hS)
theorem lC_X2_13 : Cond.methodLink RX2 13 arraycopyName ∈ gw ∧ Cond.native arraycopyName ∈ gw ∧ Cond.static arraycopyName ∈ gw ∧ Cond.initialized "java/lang/System" ∈ gw := ⟨(gw_mem (i := 367) (by decide +kernel) rfl), (gw_mem (i := 369) (by decide +kernel) rfl), (gw_mem (i := 368) (by decide +kernel) rfl), (gw_mem (i := 44) (by decide +kernel) rfl)⟩
def sm_isF (k : Nat) : Prop := k < 96 ∧ k % 8 = 0
theorem sm_Fo {k : Nat} (h : sm_isF k) : sm_ocl k = some 0 := by unfold sm_ocl; rw [if_pos h.1, if_pos h.2]
theorem sm_Fs {k : Nat} (h : sm_isF k) {m : Nat} (h1 : 1 ≤ m) (h2 : m < 8) : k + m < 96 ∧ (k + m) % 8 = m := by
  obtain ⟨a, b⟩ := h
  omega

theorem sm_Fa1 {k : Nat} (h : sm_isF k) : sm_aln (k + 1) = some 6 := by obtain ⟨a, b⟩ := sm_Fs h (m := 1) (by decide) (by decide); unfold sm_aln; rw [if_pos a, b]; rfl

theorem sm_Fa2 {k : Nat} (h : sm_isF k) : sm_aln (k + 2) = some 6 := by obtain ⟨a, b⟩ := sm_Fs h (m := 2) (by decide) (by decide); unfold sm_aln; rw [if_pos a, b]; rfl

theorem sm_Fa3 {k : Nat} (h : sm_isF k) : sm_aln (k + 3) = some 6 := by obtain ⟨a, b⟩ := sm_Fs h (m := 3) (by decide) (by decide); unfold sm_aln; rw [if_pos a, b]; rfl

theorem sm_Fa4 {k : Nat} (h : sm_isF k) : sm_aln (k + 4) = some 6 := by obtain ⟨a, b⟩ := sm_Fs h (m := 4) (by decide) (by decide); unfold sm_aln; rw [if_pos a, b]; rfl

theorem sm_Fa5 {k : Nat} (h : sm_isF k) : sm_aln (k + 5) = some 8 := by obtain ⟨a, b⟩ := sm_Fs h (m := 5) (by decide) (by decide); unfold sm_aln; rw [if_pos a, b]; rfl

theorem sm_Fa6 {k : Nat} (h : sm_isF k) : sm_aln (k + 6) = some 8 := by obtain ⟨a, b⟩ := sm_Fs h (m := 6) (by decide) (by decide); unfold sm_aln; rw [if_pos a, b]; rfl

theorem sm_Fa7 {k : Nat} (h : sm_isF k) : sm_aln (k + 7) = some 8 := by obtain ⟨a, b⟩ := sm_Fs h (m := 7) (by decide) (by decide); unfold sm_aln; rw [if_pos a, b]; rfl

theorem sm_vin {i : Int32} {n : Nat} (h1 : ¬ i < 0) (h2 : ¬ nI n ≤ i) (hn : n < 2 ^ 31) : vp_in i n := by
  rw [vp_in_iff]
  rw [Int32.lt_iff_toInt_lt] at h1
  rw [Int32.le_iff_toInt_le, nI_toInt hn] at h2
  have : (0 : Int32).toInt = 0 := rfl
  omega
theorem sm_nin {i : Int32} {n : Nat} (h : ¬ (¬ i < 0 ∧ ¬ nI n ≤ i)) (h1 : ¬ i < 0) : nI n ≤ i := by
  by_cases h2 : nI n ≤ i
  · exact h2
  · exact absurd ⟨h1, h2⟩ h
/-- a row read as 0 beyond its ends; not written there -/
def r_at (f : Nat → Int32) (n : Nat) (i : Int32) : Int32 := if ¬ i < 0 ∧ ¬ nI n ≤ i then f i.toNatClampNeg else 0
def r_set (σ : sm_St) (k n : Nat) (i v : Int32) : sm_St := if ¬ i < 0 ∧ ¬ nI n ≤ i then sm_set σ k i.toNatClampNeg v else σ
def sm_b (c : Prop) [Decidable c] : Int32 := if c then 1 else 0
theorem sm_b_e0 {c : Prop} {h : Decidable c} : (@sm_b c h = 0) = ¬ c := by unfold sm_b; split <;> simp_all
theorem sm_b_e1 {c : Prop} {h : Decidable c} : (@sm_b c h = 1) = c := by unfold sm_b; split <;> simp_all
theorem sm_b_0e {c : Prop} {h : Decidable c} : (0 = @sm_b c h) = ¬ c := by unfold sm_b; split <;> simp_all
theorem sm_b_1e {c : Prop} {h : Decidable c} : (1 = @sm_b c h) = c := by unfold sm_b; split <;> simp_all
theorem sm_b01 (c : Prop) [Decidable c] : sm_b c = 0 ∨ sm_b c = 1 := by unfold sm_b; split <;> simp

theorem c_at {σ : sm_St} {k n : Nat} (ha : sm_aln k = some n) (i : Int32) : sm_C yX2_at cX2_at 2 (some .int) 1 [.ref k, .int i] σ (some (.int (r_at (σ k) n i))) σ := by
  refine sm_C.of (own := RX2) (by decide) rfl (Nat.le_of_ble_eq_true rfl) ?_
  show sm_W RX2 cX2_at 2 (some .int) 1 (some (.int (r_at (σ k) n i))) σ 0 [(0, .ref k), (1, .int i)] [] σ
  refine sw_iload_n dX2_at_0 rfl ?_
  refine sw_if_lt (tgt := 16) dX2_at_1 (by decide) (fun h1 => ?_) (fun h1 => ?_)
  · refine sw_iconst (v := 0) dX2_at_16 (by decide) ?_
    refine sw_iret dX2_at_17 rfl rfl ?_ ?_
    all_goals (first | with_reducible rfl | (simp_all [r_at]))
  · refine sw_iload_n dX2_at_4 rfl ?_
    refine sw_aload_n dX2_at_5 rfl ?_
    refine sw_alen dX2_at_6 ha ?_
    refine sw_icmp_ge (tgt := 16) dX2_at_7 (by decide) (fun h7 => ?_) (fun h7 => ?_)
    · refine sw_iconst (v := 0) dX2_at_16 (by decide) ?_
      refine sw_iret dX2_at_17 rfl rfl ?_ ?_
      all_goals (first | with_reducible rfl | (simp_all [r_at]))
    · refine sw_aload_n dX2_at_10 rfl ?_
      refine sw_iload_n dX2_at_11 rfl ?_
      refine sw_iald dX2_at_12 ha (sm_vin h1 h7 (by have := (sm_aln_lt ha).2.2.2; omega)) rfl ?_
      refine sw_goto (tgt := 17) dX2_at_13 (by decide) ?_
      refine sw_iret dX2_at_17 rfl rfl ?_ ?_
      all_goals (first | with_reducible rfl | (simp_all [r_at]))

theorem c_atX {σ : sm_St} (i : Int32) : sm_C yX2_at cX2_at 2 (some .int) 1 [.ref 200, .int i] σ (some (.int (r_at sm_sx 5 i))) σ := by
  refine sm_C.of (own := RX2) (by decide) rfl (Nat.le_of_ble_eq_true rfl) ?_
  show sm_W RX2 cX2_at 2 (some .int) 1 (some (.int (r_at sm_sx 5 i))) σ 0 [(0, .ref 200), (1, .int i)] [] σ
  refine sw_iload_n dX2_at_0 rfl ?_
  refine sw_if_lt (tgt := 16) dX2_at_1 (by decide) (fun h1 => ?_) (fun h1 => ?_)
  · refine sw_iconst (v := 0) dX2_at_16 (by decide) ?_
    refine sw_iret dX2_at_17 rfl rfl ?_ ?_
    all_goals (first | with_reducible rfl | (simp_all [r_at]))
  · refine sw_iload_n dX2_at_4 rfl ?_
    refine sw_aload_n dX2_at_5 rfl ?_
    refine sw_alenX dX2_at_6 ?_
    refine sw_icmp_ge (tgt := 16) dX2_at_7 (by decide) (fun h7 => ?_) (fun h7 => ?_)
    · refine sw_iconst (v := 0) dX2_at_16 (by decide) ?_
      refine sw_iret dX2_at_17 rfl rfl ?_ ?_
      all_goals (first | with_reducible rfl | (simp_all [r_at]))
    · refine sw_aload_n dX2_at_10 rfl ?_
      refine sw_iload_n dX2_at_11 rfl ?_
      refine sw_ialdX dX2_at_12 (sm_vin h1 h7 (by decide)) rfl ?_
      refine sw_goto (tgt := 17) dX2_at_13 (by decide) ?_
      refine sw_iret dX2_at_17 rfl rfl ?_ ?_
      all_goals (first | with_reducible rfl | (simp_all [r_at]))

theorem c_atY {σ : sm_St} (i : Int32) : sm_C yX2_at cX2_at 2 (some .int) 1 [.ref 201, .int i] σ (some (.int (r_at sm_sy 5 i))) σ := by
  refine sm_C.of (own := RX2) (by decide) rfl (Nat.le_of_ble_eq_true rfl) ?_
  show sm_W RX2 cX2_at 2 (some .int) 1 (some (.int (r_at sm_sy 5 i))) σ 0 [(0, .ref 201), (1, .int i)] [] σ
  refine sw_iload_n dX2_at_0 rfl ?_
  refine sw_if_lt (tgt := 16) dX2_at_1 (by decide) (fun h1 => ?_) (fun h1 => ?_)
  · refine sw_iconst (v := 0) dX2_at_16 (by decide) ?_
    refine sw_iret dX2_at_17 rfl rfl ?_ ?_
    all_goals (first | with_reducible rfl | (simp_all [r_at]))
  · refine sw_iload_n dX2_at_4 rfl ?_
    refine sw_aload_n dX2_at_5 rfl ?_
    refine sw_alenY dX2_at_6 ?_
    refine sw_icmp_ge (tgt := 16) dX2_at_7 (by decide) (fun h7 => ?_) (fun h7 => ?_)
    · refine sw_iconst (v := 0) dX2_at_16 (by decide) ?_
      refine sw_iret dX2_at_17 rfl rfl ?_ ?_
      all_goals (first | with_reducible rfl | (simp_all [r_at]))
    · refine sw_aload_n dX2_at_10 rfl ?_
      refine sw_iload_n dX2_at_11 rfl ?_
      refine sw_ialdY dX2_at_12 (sm_vin h1 h7 (by decide)) rfl ?_
      refine sw_goto (tgt := 17) dX2_at_13 (by decide) ?_
      refine sw_iret dX2_at_17 rfl rfl ?_ ?_
      all_goals (first | with_reducible rfl | (simp_all [r_at]))

theorem c_set {σ : sm_St} {k n : Nat} (ha : sm_aln k = some n) (i v : Int32) : sm_C yX2_set cX2_set 3 none 1 [.ref k, .int i, .int v] σ none (r_set σ k n i v) := by
  refine sm_C.of (own := RX2) (by decide) rfl (Nat.le_of_ble_eq_true rfl) ?_
  show sm_W RX2 cX2_set 3 none 1 none (r_set σ k n i v) 0 [(0, .ref k), (1, .int i), (2, .int v)] [] σ
  refine sw_iload_n dX2_set_0 rfl ?_
  refine sw_if_lt (tgt := 14) dX2_set_1 (by decide) (fun h1 => ?_) (fun h1 => ?_)
  · refine sw_vret dX2_set_14 rfl rfl ?_
    all_goals (first | with_reducible rfl | (simp_all [r_set]))
  · refine sw_iload_n dX2_set_4 rfl ?_
    refine sw_aload_n dX2_set_5 rfl ?_
    refine sw_alen dX2_set_6 ha ?_
    refine sw_icmp_ge (tgt := 14) dX2_set_7 (by decide) (fun h7 => ?_) (fun h7 => ?_)
    · refine sw_vret dX2_set_14 rfl rfl ?_
      all_goals (first | with_reducible rfl | (simp_all [r_set]))
    · refine sw_aload_n dX2_set_10 rfl ?_
      refine sw_iload_n dX2_set_11 rfl ?_
      refine sw_iload_n dX2_set_12 rfl ?_
      refine sw_iast dX2_set_13 ha (sm_vin h1 h7 (by have := (sm_aln_lt ha).2.2.2; omega)) ?_
      refine sw_vret dX2_set_14 rfl rfl ?_
      all_goals (first | with_reducible rfl | (simp_all [r_set]))

theorem c_copy {σ : sm_St} {a b n : Nat} (ha : sm_aln a = some n) (hb : sm_aln b = some n) : sm_C yX2_copy cX2_copy 2 none 1 [.ref a, .ref b] σ none (sm_row σ b (va_cpy (σ a) (σ b) 0 0 n)) := by
  refine sm_C.of (own := RX2) (by decide) rfl (Nat.le_of_ble_eq_true rfl) ?_
  have hn := (sm_aln_lt ha).2.2.2
  have hcl : (nI n).toNatClampNeg = n := nI_clamp (by omega)
  have hn0 : ¬ nI n < 0 := nI_pos (by omega)
  show sm_W RX2 cX2_copy 2 none 1 none (sm_row σ b (va_cpy (σ a) (σ b) 0 0 n)) 0 [(0, .ref a), (1, .ref b)] [] σ
  refine sw_aload_n dX2_copy_0 rfl ?_
  refine sw_iconst (v := 0) dX2_copy_1 (by decide) ?_
  refine sw_aload_n dX2_copy_2 rfl ?_
  refine sw_iconst (v := 0) dX2_copy_3 (by decide) ?_
  refine sw_aload_n dX2_copy_4 rfl ?_
  refine sw_alen dX2_copy_5 ha ?_
  refine sw_aload_n dX2_copy_6 rfl ?_
  refine sw_alen dX2_copy_7 hb ?_
  refine sw_min dX2_copy_8 lJ_X2_7 (Nat.le_of_ble_eq_true rfl) (Nat.le_of_ble_eq_true rfl) ?_
  refine sw_top (y := nI n) (by rw [if_neg (by rw [Int32.lt_iff_toInt_lt]; omega)]) ?_
  refine sw_copy dX2_copy_11 lC_X2_13 (Nat.le_of_ble_eq_true rfl) (Nat.le_of_ble_eq_true rfl) ha hb hn0 (by rw [hcl]; exact Nat.le_refl n) (by rw [hcl]; exact Nat.le_refl n) ?_
  refine sw_vret dX2_copy_14 rfl rfl ?_
  all_goals (first | with_reducible rfl | (rw [hcl]))

def sm_win (x a b : Int32) : Bool := decide (¬ x < a ∧ ¬ b < x)

theorem c_within {σ : sm_St} (x a b : Int32) : sm_C yX5_within cX5_within 3 (some .boolean) 0 [.int x, .int a, .int b] σ (some (.int (sm_b (sm_win x a b = true)))) σ := by
  refine sm_C.of (own := RX5) (by decide) rfl (Nat.le_of_ble_eq_true rfl) ?_
  show sm_W RX5 cX5_within 3 (some .boolean) 0 (some (.int (sm_b (sm_win x a b = true)))) σ 0 [(0, .int x), (1, .int a), (2, .int b)] [] σ
  refine sw_iload_n dX5_within_0 rfl ?_
  refine sw_iload_n dX5_within_1 rfl ?_
  refine sw_icmp_lt (tgt := 14) dX5_within_2 (by decide) (fun h2 => ?_) (fun h2 => ?_)
  · refine sw_iconst (v := 0) dX5_within_14 (by decide) ?_
    refine sw_zret dX5_within_15 rfl rfl ?_ (by decide) ?_
    all_goals (first | with_reducible rfl | (simp_all [sm_b_0e, sm_b_1e, sm_win]))
  · refine sw_iload_n dX5_within_5 rfl ?_
    refine sw_iload_n dX5_within_6 rfl ?_
    refine sw_icmp_gt (tgt := 14) dX5_within_7 (by decide) (fun h7 => ?_) (fun h7 => ?_)
    · refine sw_iconst (v := 0) dX5_within_14 (by decide) ?_
      refine sw_zret dX5_within_15 rfl rfl ?_ (by decide) ?_
      all_goals (first | with_reducible rfl | (simp_all [sm_b_0e, sm_b_1e, sm_win]))
    · refine sw_iconst (v := 1) dX5_within_10 (by decide) ?_
      refine sw_goto (tgt := 15) dX5_within_11 (by decide) ?_
      refine sw_zret dX5_within_15 rfl rfl ?_ (by decide) ?_
      all_goals (first | with_reducible rfl | (simp_all [sm_b_0e, sm_b_1e, sm_win]))

def sm_cell (x y : Int32) : Bool := decide (¬ x < 0 ∧ ¬ 8 < x ∧ ¬ y < 0 ∧ ¬ 8 < y)

theorem c_isCell {σ : sm_St} (x y : Int32) : sm_C yX5_isCell cX5_isCell 2 (some .boolean) 0 [.int x, .int y] σ (some (.int (sm_b (sm_cell x y)))) σ := by
  refine sm_C.of (own := RX5) (by decide) rfl (Nat.le_of_ble_eq_true rfl) ?_
  show sm_W RX5 cX5_isCell 2 (some .boolean) 0 (some (.int (sm_b (sm_cell x y)))) σ 0 [(0, .int x), (1, .int y)] [] σ
  refine sw_iload_n dX5_isCell_0 rfl ?_
  refine sw_if_lt (tgt := 24) dX5_isCell_1 (by decide) (fun h1 => ?_) (fun h1 => ?_)
  · refine sw_iconst (v := 0) dX5_isCell_24 (by decide) ?_
    refine sw_zret dX5_isCell_25 rfl rfl ?_ (by decide) ?_
    all_goals (first | with_reducible rfl | (simp_all [sm_b_0e, sm_b_1e, sm_cell]))
  · refine sw_iload_n dX5_isCell_4 rfl ?_
    refine sw_bipush (v := 8) dX5_isCell_5 (by decide) ?_
    refine sw_icmp_gt (tgt := 24) dX5_isCell_7 (by decide) (fun h7 => ?_) (fun h7 => ?_)
    · refine sw_iconst (v := 0) dX5_isCell_24 (by decide) ?_
      refine sw_zret dX5_isCell_25 rfl rfl ?_ (by decide) ?_
      all_goals (first | with_reducible rfl | (simp_all [sm_b_0e, sm_b_1e, sm_cell]))
    · refine sw_iload_n dX5_isCell_10 rfl ?_
      refine sw_if_lt (tgt := 24) dX5_isCell_11 (by decide) (fun h11 => ?_) (fun h11 => ?_)
      · refine sw_iconst (v := 0) dX5_isCell_24 (by decide) ?_
        refine sw_zret dX5_isCell_25 rfl rfl ?_ (by decide) ?_
        all_goals (first | with_reducible rfl | (simp_all [sm_b_0e, sm_b_1e, sm_cell]))
      · refine sw_iload_n dX5_isCell_14 rfl ?_
        refine sw_bipush (v := 8) dX5_isCell_15 (by decide) ?_
        refine sw_icmp_gt (tgt := 24) dX5_isCell_17 (by decide) (fun h17 => ?_) (fun h17 => ?_)
        · refine sw_iconst (v := 0) dX5_isCell_24 (by decide) ?_
          refine sw_zret dX5_isCell_25 rfl rfl ?_ (by decide) ?_
          all_goals (first | with_reducible rfl | (simp_all [sm_b_0e, sm_b_1e, sm_cell]))
        · refine sw_iconst (v := 1) dX5_isCell_20 (by decide) ?_
          refine sw_goto (tgt := 25) dX5_isCell_21 (by decide) ?_
          refine sw_zret dX5_isCell_25 rfl rfl ?_ (by decide) ?_
          all_goals (first | with_reducible rfl | (simp_all [sm_b_0e, sm_b_1e, sm_cell]))

theorem c_cellOf {σ : sm_St} (x y : Int32) : sm_C yX5_cellOf cX5_cellOf 2 (some .int) 0 [.int x, .int y] σ (some (.int (y * 9 + x))) σ := by
  refine sm_C.of (own := RX5) (by decide) rfl (Nat.le_of_ble_eq_true rfl) ?_
  show sm_W RX5 cX5_cellOf 2 (some .int) 0 (some (.int (y * 9 + x))) σ 0 [(0, .int x), (1, .int y)] [] σ
  refine sw_iload_n dX5_cellOf_0 rfl ?_
  refine sw_bipush (v := 9) dX5_cellOf_1 (by decide) ?_
  refine sw_imul dX5_cellOf_3 ?_
  refine sw_iload_n dX5_cellOf_4 rfl ?_
  refine sw_iadd dX5_cellOf_5 ?_
  refine sw_iret dX5_cellOf_6 rfl rfl ?_ ?_
  all_goals (first | with_reducible rfl | (rfl))

theorem c_nameOf {σ : sm_St} (s y x : Int32) : sm_C yX5_nameOf cX5_nameOf 3 (some .int) 0 [.int s, .int y, .int x] σ (some (.int (100 * s + 10 * y + x))) σ := by
  refine sm_C.of (own := RX5) (by decide) rfl (Nat.le_of_ble_eq_true rfl) ?_
  show sm_W RX5 cX5_nameOf 3 (some .int) 0 (some (.int (100 * s + 10 * y + x))) σ 0 [(0, .int s), (1, .int y), (2, .int x)] [] σ
  refine sw_bipush (v := 100) dX5_nameOf_0 (by decide) ?_
  refine sw_iload_n dX5_nameOf_2 rfl ?_
  refine sw_imul dX5_nameOf_3 ?_
  refine sw_bipush (v := 10) dX5_nameOf_4 (by decide) ?_
  refine sw_iload_n dX5_nameOf_6 rfl ?_
  refine sw_imul dX5_nameOf_7 ?_
  refine sw_iadd dX5_nameOf_8 ?_
  refine sw_iload_n dX5_nameOf_9 rfl ?_
  refine sw_iadd dX5_nameOf_10 ?_
  refine sw_iret dX5_nameOf_11 rfl rfl ?_ ?_
  all_goals (first | with_reducible rfl | (rfl))
end
section
/-! what a Field answers, as functions of its numbers: V 0 is the object, V 1.. its rows -/
def sm_V (σ : sm_St) (k m : Nat) : Nat → Int32 := σ (k + m)
theorem sm_V0 {σ : sm_St} {k i : Nat} : sm_V σ k 0 i = σ k i := rfl
theorem sm_set_eq {σ : sm_St} {k i : Nat} {v : Int32} : sm_set σ k i v k i = v := by simp [sm_set, upd]
theorem sm_set_ne {σ : sm_St} {k i j : Nat} {v : Int32} (h : j ≠ i) : sm_set σ k i v k j = σ k j := by simp [sm_set, upd, h]
theorem sm_set_off {σ : sm_St} {k i q : Nat} {v : Int32} (h : q ≠ k) : sm_set σ k i v q = σ q := by simp [sm_set, h]
theorem sm_set_set {σ : sm_St} {k i : Nat} {v w : Int32} : sm_set (sm_set σ k i v) k i w = sm_set σ k i w := by
  funext q
  by_cases h : q = k
  · subst h
    funext j
    by_cases hj : j = i <;> simp [sm_set, upd, hj]
  · simp [sm_set, h]
theorem sm_set_comm {σ : sm_St} {k i j : Nat} {v w : Int32} (h : i ≠ j) : sm_set (sm_set σ k i v) k j w = sm_set (sm_set σ k j w) k i v := by
  funext q
  by_cases hq : q = k
  · subst hq
    funext a
    by_cases hi : a = i
    · subst hi; simp [sm_set, upd, h]
    · by_cases hj : a = j
      · subst hj; simp [sm_set, upd, hi]
      · simp [sm_set, upd, hi, hj]
  · simp [sm_set, hq]
def f_ab (x : Int32) : Int32 := if 0 ≤ x then x else 0 - x
def f_hasP (V : Nat → Nat → Int32) (p : Int32) : Bool := decide (¬ p < 0 ∧ ¬ V 0 6 ≤ p)
def f_hasS (V : Nat → Nat → Int32) (c : Int32) : Bool := decide (¬ c < 0 ∧ ¬ V 0 7 ≤ c)
def f_isAt (V : Nat → Nat → Int32) (x y : Int32) : Bool := decide (V 0 0 = x ∧ V 0 1 = y)
def f_apart (V : Nat → Nat → Int32) (p : Int32) : Int32 := f_ab (r_at (V 1) 6 p - V 0 0) + f_ab (r_at (V 2) 6 p - V 0 1)
def f_near (V : Nat → Nat → Int32) (w : Int32) : Nat → Int32 × Int32
  | 0 => (-4, 0)
  | p + 1 => if r_at (V 3) 6 (nI p) = w ∧ r_at (V 4) 6 (nI p) = 0 ∧ ((f_near V w p).1 = -4 ∨ ¬ (f_near V w p).2 ≤ f_apart V (nI p)) then (nI p, f_apart V (nI p)) else f_near V w p
def f_nearest (V : Nat → Nat → Int32) (c : Int32) : Int32 := (f_near V (r_at (V 6) 8 c) (V 0 6).toNatClampNeg).1
def f_far (V : Nat → Nat → Int32) (p : Int32) : Int32 := if f_hasP V p then f_apart V p else 0
def f_by (kind nose far : Int32) : Int32 :=
  if far = 0 then 0 else if kind = 1 then nose else if kind = 2 then (if nose + far < 12 then nose + far else 12) else if kind = 3 then (if 2 < far then 0 else 2 * nose) else (if 0 < nose - far then nose - far else 0)
def f_str (V : Nat → Nat → Int32) (c p : Int32) : Int32 := f_by (r_at (V 5) 8 c) (r_at (V 7) 8 c) (f_far V p)
def f_dir (right down : Int32) : Int32 := if f_ab right < f_ab down then (if down ≤ 0 then 1 else 3) else (if right ≤ 0 then 4 else 2)
def f_head (V : Nat → Nat → Int32) (p s : Int32) : Int32 := if s = 0 ∨ ¬ f_hasP V p = true then 0 else f_dir (r_at (V 1) 6 p - V 0 0) (r_at (V 2) 6 p - V 0 1)
def f_pull (V : Nat → Nat → Int32) : Nat → Int32 × Int32
  | 0 => (0 + r_at sm_sx 5 (V 0 3) * V 0 4, 0 + r_at sm_sy 5 (V 0 3) * V 0 4)
  | c + 1 => ((f_pull V c).1 + r_at sm_sx 5 (f_head V (f_nearest V (nI c)) (f_str V (nI c) (f_nearest V (nI c)))) * f_str V (nI c) (f_nearest V (nI c)), (f_pull V c).2 + r_at sm_sy 5 (f_head V (f_nearest V (nI c)) (f_str V (nI c) (f_nearest V (nI c)))) * f_str V (nI c) (f_nearest V (nI c)))
def f_R (V : Nat → Nat → Int32) : Int32 := (f_pull V (V 0 7).toNatClampNeg).1
def f_D (V : Nat → Nat → Int32) : Int32 := (f_pull V (V 0 7).toNatClampNeg).2
def f_to (V : Nat → Nat → Int32) : Int32 := f_dir (f_R V) (f_D V)
def f_goes (V : Nat → Nat → Int32) : Int32 :=
  if ¬ V 0 2 < f_ab (f_R V) ∧ ¬ V 0 2 < f_ab (f_D V) then 0 else if sm_cell (V 0 0 + r_at sm_sx 5 (f_to V)) (V 0 1 + r_at sm_sy 5 (f_to V)) then f_to V else 0
/-- behind goesTo: what it has reckoned stays -/
def g_goes (σ : sm_St) (k : Nat) : sm_St := sm_set (sm_set σ k 8 (f_R (sm_V σ k))) k 9 (f_D (sm_V σ k))
/-- an hour -/
def g_hour (σ : sm_St) (k : Nat) : sm_St := sm_set (sm_set (sm_set (g_goes σ k) k 0 (σ k 0 + r_at sm_sx 5 (f_goes (sm_V σ k)))) k 1 (σ k 1 + r_at sm_sy 5 (f_goes (sm_V σ k)))) k 5 (σ k 5 + 1)
def g_hours (σ : sm_St) (k : Nat) : Nat → sm_St × Int32
  | 0 => (σ, 0)
  | n + 1 => (g_hour (g_hours σ k n).1 k, (g_hours σ k n).2 + (if f_goes (sm_V (g_hours σ k n).1 k) = 0 then 1 else 0))
/-- they hang on no other numbers -/
def f_ag (V W : Nat → Nat → Int32) : Prop := (∀ i, i < 8 → V 0 i = W 0 i) ∧ ∀ m, 1 ≤ m → m < 8 → ∀ i, i < (if m < 5 then 6 else 8) → V m i = W m i
theorem f_ag.rf (V : Nat → Nat → Int32) : f_ag V V := ⟨fun _ _ => rfl, fun _ _ _ _ _ => rfl⟩
theorem r_at_ag {f g : Nat → Int32} {n : Nat} (hn : n < 2 ^ 31) (h : ∀ i, i < n → f i = g i) (x : Int32) : r_at f n x = r_at g n x := by
  unfold r_at
  by_cases hx : ¬ x < 0 ∧ ¬ nI n ≤ x
  · rw [if_pos hx, if_pos hx]
    have := sm_vin hx.1 hx.2 hn
    exact h _ (Nat.not_le.mp fun q => this (Or.inr q))
  · rw [if_neg hx, if_neg hx]
section
variable {V W : Nat → Nat → Int32}
theorem f_ag.p (h : f_ag V W) (m : Nat) (h1 : 1 ≤ m) (h2 : m < 5) (x : Int32) : r_at (V m) 6 x = r_at (W m) 6 x := r_at_ag (by decide) (fun i hi => h.2 m h1 (by omega) i (by rw [if_pos h2]; exact hi)) x
theorem f_ag.s (h : f_ag V W) (m : Nat) (h1 : 5 ≤ m) (h2 : m < 8) (x : Int32) : r_at (V m) 8 x = r_at (W m) 8 x := r_at_ag (by decide) (fun i hi => h.2 m (by omega) h2 i (by rw [if_neg (by omega)]; exact hi)) x
theorem f_apart_ag (h : f_ag V W) (p : Int32) : f_apart V p = f_apart W p := by
  unfold f_apart
  rw [h.p 1 (by decide) (by decide), h.p 2 (by decide) (by decide), h.1 0 (by decide), h.1 1 (by decide)]
theorem f_near_ag (h : f_ag V W) (w : Int32) : ∀ n, f_near V w n = f_near W w n
  | 0 => rfl
  | n + 1 => by
    unfold f_near
    rw [f_near_ag h w n, h.p 3 (by decide) (by decide), h.p 4 (by decide) (by decide), f_apart_ag h]
theorem f_nearest_ag (h : f_ag V W) (c : Int32) : f_nearest V c = f_nearest W c := by
  unfold f_nearest
  rw [f_near_ag h, h.s 6 (by decide) (by decide), h.1 6 (by decide)]
theorem f_far_ag (h : f_ag V W) (p : Int32) : f_far V p = f_far W p := by
  unfold f_far f_hasP
  rw [f_apart_ag h, h.1 6 (by decide)]
theorem f_str_ag (h : f_ag V W) (c p : Int32) : f_str V c p = f_str W c p := by
  unfold f_str
  rw [f_far_ag h, h.s 5 (by decide) (by decide), h.s 7 (by decide) (by decide)]
theorem f_head_ag (h : f_ag V W) (p s : Int32) : f_head V p s = f_head W p s := by
  unfold f_head f_hasP
  rw [h.1 6 (by decide), h.1 0 (by decide), h.1 1 (by decide), h.p 1 (by decide) (by decide), h.p 2 (by decide) (by decide)]
theorem f_pull_ag (h : f_ag V W) : ∀ n, f_pull V n = f_pull W n
  | 0 => by
    unfold f_pull
    rw [h.1 3 (by decide), h.1 4 (by decide)]
  | n + 1 => by
    unfold f_pull
    rw [f_pull_ag h n, f_nearest_ag h, f_str_ag h, f_head_ag h]
theorem f_R_ag (h : f_ag V W) : f_R V = f_R W := by unfold f_R; rw [f_pull_ag h, h.1 7 (by decide)]
theorem f_D_ag (h : f_ag V W) : f_D V = f_D W := by unfold f_D; rw [f_pull_ag h, h.1 7 (by decide)]
theorem f_to_ag (h : f_ag V W) : f_to V = f_to W := by unfold f_to; rw [f_R_ag h, f_D_ag h]
theorem f_goes_ag (h : f_ag V W) : f_goes V = f_goes W := by unfold f_goes; rw [f_R_ag h, f_D_ag h, f_to_ag h, h.1 0 (by decide), h.1 1 (by decide), h.1 2 (by decide)]
end
theorem f_ag_set {σ : sm_St} {k i : Nat} {v : Int32} (hi : 8 ≤ i) : f_ag (sm_V (sm_set σ k i v) k) (sm_V σ k) := by
  refine ⟨fun j hj => ?_, fun m h1 h2 j _ => ?_⟩
  · show sm_set σ k i v k j = σ k j
    exact sm_set_ne (by omega)
  · show sm_set σ k i v (k + m) j = σ (k + m) j
    rw [sm_set_off (by omega)]
theorem f_ag.tr {U V W : Nat → Nat → Int32} (h : f_ag U V) (h2 : f_ag V W) : f_ag U W := ⟨fun i hi => (h.1 i hi).trans (h2.1 i hi), fun m a b i hi => (h.2 m a b i hi).trans (h2.2 m a b i hi)⟩
theorem f_ag.sy {V W : Nat → Nat → Int32} (h : f_ag V W) : f_ag W V := ⟨fun i hi => (h.1 i hi).symm, fun m a b i hi => (h.2 m a b i hi).symm⟩
theorem f_ag_89 {σ : sm_St} {k : Nat} {v w : Int32} : f_ag (sm_V (sm_set (sm_set σ k 8 v) k 9 w) k) (sm_V σ k) := (f_ag_set (by decide)).tr (f_ag_set (by decide))
/-- counters -/
theorem sm_le_clamp {x : Int32} {i : Nat} (hi : i < 2 ^ 31) : x ≤ nI i ↔ x.toNatClampNeg ≤ i := by
  rw [Int32.le_iff_toInt_le, nI_toInt hi]
  show x.toInt ≤ i ↔ x.toInt.toNat ≤ i
  omega
theorem sm_clamp_lt (x : Int32) : x.toNatClampNeg < 2 ^ 31 := by
  have h := Int32.toInt_lt x
  show x.toInt.toNat < 2 ^ 31
  omega
end
section
theorem sw_ldcw {own : String} {cc : ByteArray} {nL d : Nat} {ret : Option FieldType} {r : Option Value} {σ' σ : sm_St} {pc : Nat} {lv : List (Nat × Value)} {st : List Value} {index : Nat} {v : Int32} (hd : decode cc pc = .ok (.ldc_w index, 3)) (hw : Cond.constant own index v ∈ gw) (k : sm_W own cc nL ret d r σ' (pc + 3) lv (.int v :: st) σ) : sm_W own cc nL ret d r σ' pc lv st σ := by
  intro p l e s m args below meth c ρ D cI cF A H locs ls X hl hP hD hS
  exact lv_ldcw X.1 X.2.1 X.2.2.2.1 (X.2.2.2.2.1 _ hw) hd (k X hl hP hD hS)

theorem sw_ab {own : String} {cc : ByteArray} {nL d : Nat} {ret : Option FieldType} {r : Option Value} {σ' σ : sm_St} {pc : Nat} {lv : List (Nat × Value)} {idx : Nat} {st : List Value} {x : Int32} (hd : decode cc pc = .ok (.invokestatic idx, 3)) (hL : sm_lJ own idx Lib.Math.abs.name "java/lang/Math" Lib.Math.abs.code 1) (hdd : 1 ≤ d) (hst : (st.map fun v => v.category).sum ≤ 8) (kk : sm_W own cc nL ret d r σ' (pc + 3) lv (.int (f_ab x) :: st) σ) : sm_W own cc nL ret d r σ' pc lv (.int x :: st) σ := sw_abs hd hL hdd hst kk

theorem sw_tab_X0_strengthTo_42 {nL d : Nat} {ret : Option FieldType} {r : Option Value} {σ' σ : sm_St} {lv : List (Nat × Value)} {st : List Value} {x : Int32} (k1 : x = 1 → sm_W RX0 cX0_strengthTo nL ret d r σ' 68 lv st σ) (k2 : x = 2 → sm_W RX0 cX0_strengthTo nL ret d r σ' 71 lv st σ) (k3 : x = 3 → sm_W RX0 cX0_strengthTo nL ret d r σ' 81 lv st σ) (kd : ¬ x = 1 → ¬ x = 2 → ¬ x = 3 → sm_W RX0 cX0_strengthTo nL ret d r σ' 95 lv st σ) : sm_W RX0 cX0_strengthTo nL ret d r σ' 42 lv (.int x :: st) σ := by
  by_cases h1 : x = 1
  · subst h1; exact sw_tableIn dX0_strengthTo_42 (by decide) (by decide) (show _ = some (26) from rfl) (by decide) (k1 rfl)
  by_cases h2 : x = 2
  · subst h2; exact sw_tableIn dX0_strengthTo_42 (by decide) (by decide) (show _ = some (29) from rfl) (by decide) (k2 rfl)
  by_cases h3 : x = 3
  · subst h3; exact sw_tableIn dX0_strengthTo_42 (by decide) (by decide) (show _ = some (39) from rfl) (by decide) (k3 rfl)
  have e1 : x.toInt ≠ 1 := fun e => h1 (Int32.toInt_inj.mp e)
  have e2 : x.toInt ≠ 2 := fun e => h2 (Int32.toInt_inj.mp e)
  have e3 : x.toInt ≠ 3 := fun e => h3 (Int32.toInt_inj.mp e)
  exact sw_tableOut (tgt := 95) dX0_strengthTo_42 (by omega) (by decide) (kd h1 h2 h3)

theorem sw_tab_X5_count_1 {nL d : Nat} {ret : Option FieldType} {r : Option Value} {σ' σ : sm_St} {lv : List (Nat × Value)} {st : List Value} {x : Int32} (k0 : x = 0 → sm_W RX5 cX5_count nL ret d r σ' 68 lv st σ) (k1 : x = 1 → sm_W RX5 cX5_count nL ret d r σ' 76 lv st σ) (k2 : x = 2 → sm_W RX5 cX5_count nL ret d r σ' 84 lv st σ) (k3 : x = 3 → sm_W RX5 cX5_count nL ret d r σ' 92 lv st σ) (k4 : x = 4 → sm_W RX5 cX5_count nL ret d r σ' 100 lv st σ) (k5 : x = 5 → sm_W RX5 cX5_count nL ret d r σ' 108 lv st σ) (k6 : x = 6 → sm_W RX5 cX5_count nL ret d r σ' 116 lv st σ) (k7 : x = 7 → sm_W RX5 cX5_count nL ret d r σ' 124 lv st σ) (k8 : x = 8 → sm_W RX5 cX5_count nL ret d r σ' 132 lv st σ) (k9 : x = 9 → sm_W RX5 cX5_count nL ret d r σ' 151 lv st σ) (k10 : x = 10 → sm_W RX5 cX5_count nL ret d r σ' 159 lv st σ) (k11 : x = 11 → sm_W RX5 cX5_count nL ret d r σ' 167 lv st σ) (k12 : x = 12 → sm_W RX5 cX5_count nL ret d r σ' 175 lv st σ) (kd : ¬ x = 0 → ¬ x = 1 → ¬ x = 2 → ¬ x = 3 → ¬ x = 4 → ¬ x = 5 → ¬ x = 6 → ¬ x = 7 → ¬ x = 8 → ¬ x = 9 → ¬ x = 10 → ¬ x = 11 → ¬ x = 12 → sm_W RX5 cX5_count nL ret d r σ' 183 lv st σ) : sm_W RX5 cX5_count nL ret d r σ' 1 lv (.int x :: st) σ := by
  by_cases h0 : x = 0
  · subst h0; exact sw_tableIn dX5_count_1 (by decide) (by decide) (show _ = some (67) from rfl) (by decide) (k0 rfl)
  by_cases h1 : x = 1
  · subst h1; exact sw_tableIn dX5_count_1 (by decide) (by decide) (show _ = some (75) from rfl) (by decide) (k1 rfl)
  by_cases h2 : x = 2
  · subst h2; exact sw_tableIn dX5_count_1 (by decide) (by decide) (show _ = some (83) from rfl) (by decide) (k2 rfl)
  by_cases h3 : x = 3
  · subst h3; exact sw_tableIn dX5_count_1 (by decide) (by decide) (show _ = some (91) from rfl) (by decide) (k3 rfl)
  by_cases h4 : x = 4
  · subst h4; exact sw_tableIn dX5_count_1 (by decide) (by decide) (show _ = some (99) from rfl) (by decide) (k4 rfl)
  by_cases h5 : x = 5
  · subst h5; exact sw_tableIn dX5_count_1 (by decide) (by decide) (show _ = some (107) from rfl) (by decide) (k5 rfl)
  by_cases h6 : x = 6
  · subst h6; exact sw_tableIn dX5_count_1 (by decide) (by decide) (show _ = some (115) from rfl) (by decide) (k6 rfl)
  by_cases h7 : x = 7
  · subst h7; exact sw_tableIn dX5_count_1 (by decide) (by decide) (show _ = some (123) from rfl) (by decide) (k7 rfl)
  by_cases h8 : x = 8
  · subst h8; exact sw_tableIn dX5_count_1 (by decide) (by decide) (show _ = some (131) from rfl) (by decide) (k8 rfl)
  by_cases h9 : x = 9
  · subst h9; exact sw_tableIn dX5_count_1 (by decide) (by decide) (show _ = some (150) from rfl) (by decide) (k9 rfl)
  by_cases h10 : x = 10
  · subst h10; exact sw_tableIn dX5_count_1 (by decide) (by decide) (show _ = some (158) from rfl) (by decide) (k10 rfl)
  by_cases h11 : x = 11
  · subst h11; exact sw_tableIn dX5_count_1 (by decide) (by decide) (show _ = some (166) from rfl) (by decide) (k11 rfl)
  by_cases h12 : x = 12
  · subst h12; exact sw_tableIn dX5_count_1 (by decide) (by decide) (show _ = some (174) from rfl) (by decide) (k12 rfl)
  have e0 : x.toInt ≠ 0 := fun e => h0 (Int32.toInt_inj.mp e)
  have e1 : x.toInt ≠ 1 := fun e => h1 (Int32.toInt_inj.mp e)
  have e2 : x.toInt ≠ 2 := fun e => h2 (Int32.toInt_inj.mp e)
  have e3 : x.toInt ≠ 3 := fun e => h3 (Int32.toInt_inj.mp e)
  have e4 : x.toInt ≠ 4 := fun e => h4 (Int32.toInt_inj.mp e)
  have e5 : x.toInt ≠ 5 := fun e => h5 (Int32.toInt_inj.mp e)
  have e6 : x.toInt ≠ 6 := fun e => h6 (Int32.toInt_inj.mp e)
  have e7 : x.toInt ≠ 7 := fun e => h7 (Int32.toInt_inj.mp e)
  have e8 : x.toInt ≠ 8 := fun e => h8 (Int32.toInt_inj.mp e)
  have e9 : x.toInt ≠ 9 := fun e => h9 (Int32.toInt_inj.mp e)
  have e10 : x.toInt ≠ 10 := fun e => h10 (Int32.toInt_inj.mp e)
  have e11 : x.toInt ≠ 11 := fun e => h11 (Int32.toInt_inj.mp e)
  have e12 : x.toInt ≠ 12 := fun e => h12 (Int32.toInt_inj.mp e)
  exact sw_tableOut (tgt := 183) dX5_count_1 (by omega) (by decide) (kd h0 h1 h2 h3 h4 h5 h6 h7 h8 h9 h10 h11 h12)

theorem sw_tab_X5_crew_34 {nL d : Nat} {ret : Option FieldType} {r : Option Value} {σ' σ : sm_St} {lv : List (Nat × Value)} {st : List Value} {x : Int32} (k0 : x = 0 → sm_W RX5 cX5_crew nL ret d r σ' 72 lv st σ) (k1 : x = 1 → sm_W RX5 cX5_crew nL ret d r σ' 84 lv st σ) (k2 : x = 2 → sm_W RX5 cX5_crew nL ret d r σ' 96 lv st σ) (k3 : x = 3 → sm_W RX5 cX5_crew nL ret d r σ' 108 lv st σ) (k4 : x = 4 → sm_W RX5 cX5_crew nL ret d r σ' 110 lv st σ) (k5 : x = 5 → sm_W RX5 cX5_crew nL ret d r σ' 113 lv st σ) (kd : ¬ x = 0 → ¬ x = 1 → ¬ x = 2 → ¬ x = 3 → ¬ x = 4 → ¬ x = 5 → sm_W RX5 cX5_crew nL ret d r σ' 124 lv st σ) : sm_W RX5 cX5_crew nL ret d r σ' 34 lv (.int x :: st) σ := by
  by_cases h0 : x = 0
  · subst h0; exact sw_tableIn dX5_crew_34 (by decide) (by decide) (show _ = some (38) from rfl) (by decide) (k0 rfl)
  by_cases h1 : x = 1
  · subst h1; exact sw_tableIn dX5_crew_34 (by decide) (by decide) (show _ = some (50) from rfl) (by decide) (k1 rfl)
  by_cases h2 : x = 2
  · subst h2; exact sw_tableIn dX5_crew_34 (by decide) (by decide) (show _ = some (62) from rfl) (by decide) (k2 rfl)
  by_cases h3 : x = 3
  · subst h3; exact sw_tableIn dX5_crew_34 (by decide) (by decide) (show _ = some (74) from rfl) (by decide) (k3 rfl)
  by_cases h4 : x = 4
  · subst h4; exact sw_tableIn dX5_crew_34 (by decide) (by decide) (show _ = some (76) from rfl) (by decide) (k4 rfl)
  by_cases h5 : x = 5
  · subst h5; exact sw_tableIn dX5_crew_34 (by decide) (by decide) (show _ = some (79) from rfl) (by decide) (k5 rfl)
  have e0 : x.toInt ≠ 0 := fun e => h0 (Int32.toInt_inj.mp e)
  have e1 : x.toInt ≠ 1 := fun e => h1 (Int32.toInt_inj.mp e)
  have e2 : x.toInt ≠ 2 := fun e => h2 (Int32.toInt_inj.mp e)
  have e3 : x.toInt ≠ 3 := fun e => h3 (Int32.toInt_inj.mp e)
  have e4 : x.toInt ≠ 4 := fun e => h4 (Int32.toInt_inj.mp e)
  have e5 : x.toInt ≠ 5 := fun e => h5 (Int32.toInt_inj.mp e)
  exact sw_tableOut (tgt := 124) dX5_crew_34 (by omega) (by decide) (kd h0 h1 h2 h3 h4 h5)

theorem sw_tab_X5_may_25 {nL d : Nat} {ret : Option FieldType} {r : Option Value} {σ' σ : sm_St} {lv : List (Nat × Value)} {st : List Value} {x : Int32} (k0 : x = 0 → sm_W RX5 cX5_may nL ret d r σ' 52 lv st σ) (k1 : x = 1 → sm_W RX5 cX5_may nL ret d r σ' 68 lv st σ) (k2 : x = 2 → sm_W RX5 cX5_may nL ret d r σ' 83 lv st σ) (kd : ¬ x = 0 → ¬ x = 1 → ¬ x = 2 → sm_W RX5 cX5_may nL ret d r σ' 98 lv st σ) : sm_W RX5 cX5_may nL ret d r σ' 25 lv (.int x :: st) σ := by
  by_cases h0 : x = 0
  · subst h0; exact sw_tableIn dX5_may_25 (by decide) (by decide) (show _ = some (27) from rfl) (by decide) (k0 rfl)
  by_cases h1 : x = 1
  · subst h1; exact sw_tableIn dX5_may_25 (by decide) (by decide) (show _ = some (43) from rfl) (by decide) (k1 rfl)
  by_cases h2 : x = 2
  · subst h2; exact sw_tableIn dX5_may_25 (by decide) (by decide) (show _ = some (58) from rfl) (by decide) (k2 rfl)
  have e0 : x.toInt ≠ 0 := fun e => h0 (Int32.toInt_inj.mp e)
  have e1 : x.toInt ≠ 1 := fun e => h1 (Int32.toInt_inj.mp e)
  have e2 : x.toInt ≠ 2 := fun e => h2 (Int32.toInt_inj.mp e)
  exact sw_tableOut (tgt := 98) dX5_may_25 (by omega) (by decide) (kd h0 h1 h2)

theorem sw_tab_X5_post_14 {nL d : Nat} {ret : Option FieldType} {r : Option Value} {σ' σ : sm_St} {lv : List (Nat × Value)} {st : List Value} {x : Int32} (k0 : x = 0 → sm_W RX5 cX5_post nL ret d r σ' 44 lv st σ) (k1 : x = 1 → sm_W RX5 cX5_post nL ret d r σ' 56 lv st σ) (k2 : x = 2 → sm_W RX5 cX5_post nL ret d r σ' 68 lv st σ) (k3 : x = 3 → sm_W RX5 cX5_post nL ret d r σ' 80 lv st σ) (kd : ¬ x = 0 → ¬ x = 1 → ¬ x = 2 → ¬ x = 3 → sm_W RX5 cX5_post nL ret d r σ' 92 lv st σ) : sm_W RX5 cX5_post nL ret d r σ' 14 lv (.int x :: st) σ := by
  by_cases h0 : x = 0
  · subst h0; exact sw_tableIn dX5_post_14 (by decide) (by decide) (show _ = some (30) from rfl) (by decide) (k0 rfl)
  by_cases h1 : x = 1
  · subst h1; exact sw_tableIn dX5_post_14 (by decide) (by decide) (show _ = some (42) from rfl) (by decide) (k1 rfl)
  by_cases h2 : x = 2
  · subst h2; exact sw_tableIn dX5_post_14 (by decide) (by decide) (show _ = some (54) from rfl) (by decide) (k2 rfl)
  by_cases h3 : x = 3
  · subst h3; exact sw_tableIn dX5_post_14 (by decide) (by decide) (show _ = some (66) from rfl) (by decide) (k3 rfl)
  have e0 : x.toInt ≠ 0 := fun e => h0 (Int32.toInt_inj.mp e)
  have e1 : x.toInt ≠ 1 := fun e => h1 (Int32.toInt_inj.mp e)
  have e2 : x.toInt ≠ 2 := fun e => h2 (Int32.toInt_inj.mp e)
  have e3 : x.toInt ≠ 3 := fun e => h3 (Int32.toInt_inj.mp e)
  exact sw_tableOut (tgt := 92) dX5_post_14 (by omega) (by decide) (kd h0 h1 h2 h3)

theorem sw_tab_X5_pull_9 {nL d : Nat} {ret : Option FieldType} {r : Option Value} {σ' σ : sm_St} {lv : List (Nat × Value)} {st : List Value} {x : Int32} (k0 : x = 0 → sm_W RX5 cX5_pull nL ret d r σ' 36 lv st σ) (k1 : x = 1 → sm_W RX5 cX5_pull nL ret d r σ' 48 lv st σ) (k2 : x = 2 → sm_W RX5 cX5_pull nL ret d r σ' 60 lv st σ) (kd : ¬ x = 0 → ¬ x = 1 → ¬ x = 2 → sm_W RX5 cX5_pull nL ret d r σ' 62 lv st σ) : sm_W RX5 cX5_pull nL ret d r σ' 9 lv (.int x :: st) σ := by
  by_cases h0 : x = 0
  · subst h0; exact sw_tableIn dX5_pull_9 (by decide) (by decide) (show _ = some (27) from rfl) (by decide) (k0 rfl)
  by_cases h1 : x = 1
  · subst h1; exact sw_tableIn dX5_pull_9 (by decide) (by decide) (show _ = some (39) from rfl) (by decide) (k1 rfl)
  by_cases h2 : x = 2
  · subst h2; exact sw_tableIn dX5_pull_9 (by decide) (by decide) (show _ = some (51) from rfl) (by decide) (k2 rfl)
  have e0 : x.toInt ≠ 0 := fun e => h0 (Int32.toInt_inj.mp e)
  have e1 : x.toInt ≠ 1 := fun e => h1 (Int32.toInt_inj.mp e)
  have e2 : x.toInt ≠ 2 := fun e => h2 (Int32.toInt_inj.mp e)
  exact sw_tableOut (tgt := 62) dX5_pull_9 (by omega) (by decide) (kd h0 h1 h2)

theorem sw_tab_X6_count_13 {nL d : Nat} {ret : Option FieldType} {r : Option Value} {σ' σ : sm_St} {lv : List (Nat × Value)} {st : List Value} {x : Int32} (k0 : x = 0 → sm_W RX6 cX6_count nL ret d r σ' 76 lv st σ) (k1 : x = 1 → sm_W RX6 cX6_count nL ret d r σ' 81 lv st σ) (k2 : x = 2 → sm_W RX6 cX6_count nL ret d r σ' 86 lv st σ) (k3 : x = 3 → sm_W RX6 cX6_count nL ret d r σ' 91 lv st σ) (k4 : x = 4 → sm_W RX6 cX6_count nL ret d r σ' 96 lv st σ) (k5 : x = 5 → sm_W RX6 cX6_count nL ret d r σ' 101 lv st σ) (k6 : x = 6 → sm_W RX6 cX6_count nL ret d r σ' 106 lv st σ) (k7 : x = 7 → sm_W RX6 cX6_count nL ret d r σ' 111 lv st σ) (k8 : x = 8 → sm_W RX6 cX6_count nL ret d r σ' 116 lv st σ) (k9 : x = 9 → sm_W RX6 cX6_count nL ret d r σ' 126 lv st σ) (k10 : x = 10 → sm_W RX6 cX6_count nL ret d r σ' 131 lv st σ) (k11 : x = 11 → sm_W RX6 cX6_count nL ret d r σ' 136 lv st σ) (kd : ¬ x = 0 → ¬ x = 1 → ¬ x = 2 → ¬ x = 3 → ¬ x = 4 → ¬ x = 5 → ¬ x = 6 → ¬ x = 7 → ¬ x = 8 → ¬ x = 9 → ¬ x = 10 → ¬ x = 11 → sm_W RX6 cX6_count nL ret d r σ' 141 lv st σ) : sm_W RX6 cX6_count nL ret d r σ' 13 lv (.int x :: st) σ := by
  by_cases h0 : x = 0
  · subst h0; exact sw_tableIn dX6_count_13 (by decide) (by decide) (show _ = some (63) from rfl) (by decide) (k0 rfl)
  by_cases h1 : x = 1
  · subst h1; exact sw_tableIn dX6_count_13 (by decide) (by decide) (show _ = some (68) from rfl) (by decide) (k1 rfl)
  by_cases h2 : x = 2
  · subst h2; exact sw_tableIn dX6_count_13 (by decide) (by decide) (show _ = some (73) from rfl) (by decide) (k2 rfl)
  by_cases h3 : x = 3
  · subst h3; exact sw_tableIn dX6_count_13 (by decide) (by decide) (show _ = some (78) from rfl) (by decide) (k3 rfl)
  by_cases h4 : x = 4
  · subst h4; exact sw_tableIn dX6_count_13 (by decide) (by decide) (show _ = some (83) from rfl) (by decide) (k4 rfl)
  by_cases h5 : x = 5
  · subst h5; exact sw_tableIn dX6_count_13 (by decide) (by decide) (show _ = some (88) from rfl) (by decide) (k5 rfl)
  by_cases h6 : x = 6
  · subst h6; exact sw_tableIn dX6_count_13 (by decide) (by decide) (show _ = some (93) from rfl) (by decide) (k6 rfl)
  by_cases h7 : x = 7
  · subst h7; exact sw_tableIn dX6_count_13 (by decide) (by decide) (show _ = some (98) from rfl) (by decide) (k7 rfl)
  by_cases h8 : x = 8
  · subst h8; exact sw_tableIn dX6_count_13 (by decide) (by decide) (show _ = some (103) from rfl) (by decide) (k8 rfl)
  by_cases h9 : x = 9
  · subst h9; exact sw_tableIn dX6_count_13 (by decide) (by decide) (show _ = some (113) from rfl) (by decide) (k9 rfl)
  by_cases h10 : x = 10
  · subst h10; exact sw_tableIn dX6_count_13 (by decide) (by decide) (show _ = some (118) from rfl) (by decide) (k10 rfl)
  by_cases h11 : x = 11
  · subst h11; exact sw_tableIn dX6_count_13 (by decide) (by decide) (show _ = some (123) from rfl) (by decide) (k11 rfl)
  have e0 : x.toInt ≠ 0 := fun e => h0 (Int32.toInt_inj.mp e)
  have e1 : x.toInt ≠ 1 := fun e => h1 (Int32.toInt_inj.mp e)
  have e2 : x.toInt ≠ 2 := fun e => h2 (Int32.toInt_inj.mp e)
  have e3 : x.toInt ≠ 3 := fun e => h3 (Int32.toInt_inj.mp e)
  have e4 : x.toInt ≠ 4 := fun e => h4 (Int32.toInt_inj.mp e)
  have e5 : x.toInt ≠ 5 := fun e => h5 (Int32.toInt_inj.mp e)
  have e6 : x.toInt ≠ 6 := fun e => h6 (Int32.toInt_inj.mp e)
  have e7 : x.toInt ≠ 7 := fun e => h7 (Int32.toInt_inj.mp e)
  have e8 : x.toInt ≠ 8 := fun e => h8 (Int32.toInt_inj.mp e)
  have e9 : x.toInt ≠ 9 := fun e => h9 (Int32.toInt_inj.mp e)
  have e10 : x.toInt ≠ 10 := fun e => h10 (Int32.toInt_inj.mp e)
  have e11 : x.toInt ≠ 11 := fun e => h11 (Int32.toInt_inj.mp e)
  exact sw_tableOut (tgt := 141) dX6_count_13 (by omega) (by decide) (kd h0 h1 h2 h3 h4 h5 h6 h7 h8 h9 h10 h11)

theorem sw_tab_X6_crew_20 {nL d : Nat} {ret : Option FieldType} {r : Option Value} {σ' σ : sm_St} {lv : List (Nat × Value)} {st : List Value} {x : Int32} (k0 : x = 0 → sm_W RX6 cX6_crew nL ret d r σ' 56 lv st σ) (k1 : x = 1 → sm_W RX6 cX6_crew nL ret d r σ' 63 lv st σ) (k2 : x = 2 → sm_W RX6 cX6_crew nL ret d r σ' 70 lv st σ) (k3 : x = 3 → sm_W RX6 cX6_crew nL ret d r σ' 77 lv st σ) (k4 : x = 4 → sm_W RX6 cX6_crew nL ret d r σ' 88 lv st σ) (kd : ¬ x = 0 → ¬ x = 1 → ¬ x = 2 → ¬ x = 3 → ¬ x = 4 → sm_W RX6 cX6_crew nL ret d r σ' 94 lv st σ) : sm_W RX6 cX6_crew nL ret d r σ' 20 lv (.int x :: st) σ := by
  by_cases h0 : x = 0
  · subst h0; exact sw_tableIn dX6_crew_20 (by decide) (by decide) (show _ = some (36) from rfl) (by decide) (k0 rfl)
  by_cases h1 : x = 1
  · subst h1; exact sw_tableIn dX6_crew_20 (by decide) (by decide) (show _ = some (43) from rfl) (by decide) (k1 rfl)
  by_cases h2 : x = 2
  · subst h2; exact sw_tableIn dX6_crew_20 (by decide) (by decide) (show _ = some (50) from rfl) (by decide) (k2 rfl)
  by_cases h3 : x = 3
  · subst h3; exact sw_tableIn dX6_crew_20 (by decide) (by decide) (show _ = some (57) from rfl) (by decide) (k3 rfl)
  by_cases h4 : x = 4
  · subst h4; exact sw_tableIn dX6_crew_20 (by decide) (by decide) (show _ = some (68) from rfl) (by decide) (k4 rfl)
  have e0 : x.toInt ≠ 0 := fun e => h0 (Int32.toInt_inj.mp e)
  have e1 : x.toInt ≠ 1 := fun e => h1 (Int32.toInt_inj.mp e)
  have e2 : x.toInt ≠ 2 := fun e => h2 (Int32.toInt_inj.mp e)
  have e3 : x.toInt ≠ 3 := fun e => h3 (Int32.toInt_inj.mp e)
  have e4 : x.toInt ≠ 4 := fun e => h4 (Int32.toInt_inj.mp e)
  exact sw_tableOut (tgt := 94) dX6_crew_20 (by omega) (by decide) (kd h0 h1 h2 h3 h4)

theorem sw_tab_X6_strengthBy_7 {nL d : Nat} {ret : Option FieldType} {r : Option Value} {σ' σ : sm_St} {lv : List (Nat × Value)} {st : List Value} {x : Int32} (k1 : x = 1 → sm_W RX6 cX6_strengthBy nL ret d r σ' 32 lv st σ) (k2 : x = 2 → sm_W RX6 cX6_strengthBy nL ret d r σ' 34 lv st σ) (k3 : x = 3 → sm_W RX6 cX6_strengthBy nL ret d r σ' 51 lv st σ) (kd : ¬ x = 1 → ¬ x = 2 → ¬ x = 3 → sm_W RX6 cX6_strengthBy nL ret d r σ' 64 lv st σ) : sm_W RX6 cX6_strengthBy nL ret d r σ' 7 lv (.int x :: st) σ := by
  by_cases h1 : x = 1
  · subst h1; exact sw_tableIn dX6_strengthBy_7 (by decide) (by decide) (show _ = some (25) from rfl) (by decide) (k1 rfl)
  by_cases h2 : x = 2
  · subst h2; exact sw_tableIn dX6_strengthBy_7 (by decide) (by decide) (show _ = some (27) from rfl) (by decide) (k2 rfl)
  by_cases h3 : x = 3
  · subst h3; exact sw_tableIn dX6_strengthBy_7 (by decide) (by decide) (show _ = some (44) from rfl) (by decide) (k3 rfl)
  have e1 : x.toInt ≠ 1 := fun e => h1 (Int32.toInt_inj.mp e)
  have e2 : x.toInt ≠ 2 := fun e => h2 (Int32.toInt_inj.mp e)
  have e3 : x.toInt ≠ 3 := fun e => h3 (Int32.toInt_inj.mp e)
  exact sw_tableOut (tgt := 64) dX6_strengthBy_7 (by omega) (by decide) (kd h1 h2 h3)
end
section
theorem c_hasPost {σ : sm_St} {k : Nat} (hk : sm_isF k) (p : Int32) : sm_C yX0_hasPost cX0_hasPost 2 (some .boolean) 0 [.ref k, .int p] σ (some (.int (sm_b (f_hasP (sm_V σ k) p)))) σ := by
  refine sm_C.of (own := RX0) (by decide) rfl (Nat.le_of_ble_eq_true rfl) ?_
  show sm_W RX0 cX0_hasPost 2 (some .boolean) 0 (some (.int (sm_b (f_hasP (sm_V σ k) p)))) σ 0 [(0, .ref k), (1, .int p)] [] σ
  refine sw_iload_n dX0_hasPost_0 rfl ?_
  refine sw_if_lt (tgt := 16) dX0_hasPost_1 (by decide) (fun h1 => ?_) (fun h1 => ?_)
  · refine sw_iconst (v := 0) dX0_hasPost_16 (by decide) ?_
    refine sw_zret dX0_hasPost_17 rfl rfl ?_ (by decide) ?_
    all_goals (first | with_reducible rfl | (simp_all [-Int32.not_lt, -Int32.not_le, sm_V, f_hasP, f_hasS, f_isAt, sm_b_e0, sm_b_e1, sm_b_0e, sm_b_1e, sm_V0]))
  · refine sw_iload_n dX0_hasPost_4 rfl ?_
    refine sw_aload_n dX0_hasPost_5 rfl ?_
    refine sw_getI dX0_hasPost_6 fl_X0_52 (sm_Fo hk) rfl ?_
    refine sw_icmp_ge (tgt := 16) dX0_hasPost_9 (by decide) (fun h9 => ?_) (fun h9 => ?_)
    · refine sw_iconst (v := 0) dX0_hasPost_16 (by decide) ?_
      refine sw_zret dX0_hasPost_17 rfl rfl ?_ (by decide) ?_
      all_goals (first | with_reducible rfl | (simp_all [-Int32.not_lt, -Int32.not_le, sm_V, f_hasP, f_hasS, f_isAt, sm_b_e0, sm_b_e1, sm_b_0e, sm_b_1e, sm_V0]))
    · refine sw_iconst (v := 1) dX0_hasPost_12 (by decide) ?_
      refine sw_goto (tgt := 17) dX0_hasPost_13 (by decide) ?_
      refine sw_zret dX0_hasPost_17 rfl rfl ?_ (by decide) ?_
      all_goals (first | with_reducible rfl | (simp_all [-Int32.not_lt, -Int32.not_le, sm_V, f_hasP, f_hasS, f_isAt, sm_b_e0, sm_b_e1, sm_b_0e, sm_b_1e, sm_V0]))

theorem c_hasSailor {σ : sm_St} {k : Nat} (hk : sm_isF k) (c : Int32) : sm_C yX0_hasSailor cX0_hasSailor 2 (some .boolean) 0 [.ref k, .int c] σ (some (.int (sm_b (f_hasS (sm_V σ k) c)))) σ := by
  refine sm_C.of (own := RX0) (by decide) rfl (Nat.le_of_ble_eq_true rfl) ?_
  show sm_W RX0 cX0_hasSailor 2 (some .boolean) 0 (some (.int (sm_b (f_hasS (sm_V σ k) c)))) σ 0 [(0, .ref k), (1, .int c)] [] σ
  refine sw_iload_n dX0_hasSailor_0 rfl ?_
  refine sw_if_lt (tgt := 16) dX0_hasSailor_1 (by decide) (fun h1 => ?_) (fun h1 => ?_)
  · refine sw_iconst (v := 0) dX0_hasSailor_16 (by decide) ?_
    refine sw_zret dX0_hasSailor_17 rfl rfl ?_ (by decide) ?_
    all_goals (first | with_reducible rfl | (simp_all [-Int32.not_lt, -Int32.not_le, sm_V, f_hasP, f_hasS, f_isAt, sm_b_e0, sm_b_e1, sm_b_0e, sm_b_1e, sm_V0]))
  · refine sw_iload_n dX0_hasSailor_4 rfl ?_
    refine sw_aload_n dX0_hasSailor_5 rfl ?_
    refine sw_getI dX0_hasSailor_6 fl_X0_55 (sm_Fo hk) rfl ?_
    refine sw_icmp_ge (tgt := 16) dX0_hasSailor_9 (by decide) (fun h9 => ?_) (fun h9 => ?_)
    · refine sw_iconst (v := 0) dX0_hasSailor_16 (by decide) ?_
      refine sw_zret dX0_hasSailor_17 rfl rfl ?_ (by decide) ?_
      all_goals (first | with_reducible rfl | (simp_all [-Int32.not_lt, -Int32.not_le, sm_V, f_hasP, f_hasS, f_isAt, sm_b_e0, sm_b_e1, sm_b_0e, sm_b_1e, sm_V0]))
    · refine sw_iconst (v := 1) dX0_hasSailor_12 (by decide) ?_
      refine sw_goto (tgt := 17) dX0_hasSailor_13 (by decide) ?_
      refine sw_zret dX0_hasSailor_17 rfl rfl ?_ (by decide) ?_
      all_goals (first | with_reducible rfl | (simp_all [-Int32.not_lt, -Int32.not_le, sm_V, f_hasP, f_hasS, f_isAt, sm_b_e0, sm_b_e1, sm_b_0e, sm_b_1e, sm_V0]))

theorem c_isShipAt {σ : sm_St} {k : Nat} (hk : sm_isF k) (x y : Int32) : sm_C yX0_isShipAt cX0_isShipAt 3 (some .boolean) 0 [.ref k, .int x, .int y] σ (some (.int (sm_b (f_isAt (sm_V σ k) x y)))) σ := by
  refine sm_C.of (own := RX0) (by decide) rfl (Nat.le_of_ble_eq_true rfl) ?_
  show sm_W RX0 cX0_isShipAt 3 (some .boolean) 0 (some (.int (sm_b (f_isAt (sm_V σ k) x y)))) σ 0 [(0, .ref k), (1, .int x), (2, .int y)] [] σ
  refine sw_aload_n dX0_isShipAt_0 rfl ?_
  refine sw_getI dX0_isShipAt_1 fl_X0_33 (sm_Fo hk) rfl ?_
  refine sw_iload_n dX0_isShipAt_4 rfl ?_
  refine sw_icmp_ne (tgt := 20) dX0_isShipAt_5 (by decide) (fun h5 => ?_) (fun h5 => ?_)
  · refine sw_iconst (v := 0) dX0_isShipAt_20 (by decide) ?_
    refine sw_zret dX0_isShipAt_21 rfl rfl ?_ (by decide) ?_
    all_goals (first | with_reducible rfl | (simp_all [-Int32.not_lt, -Int32.not_le, sm_V, f_hasP, f_hasS, f_isAt, sm_b_e0, sm_b_e1, sm_b_0e, sm_b_1e, sm_V0]))
  · refine sw_aload_n dX0_isShipAt_8 rfl ?_
    refine sw_getI dX0_isShipAt_9 fl_X0_37 (sm_Fo hk) rfl ?_
    refine sw_iload_n dX0_isShipAt_12 rfl ?_
    refine sw_icmp_ne (tgt := 20) dX0_isShipAt_13 (by decide) (fun h13 => ?_) (fun h13 => ?_)
    · refine sw_iconst (v := 0) dX0_isShipAt_20 (by decide) ?_
      refine sw_zret dX0_isShipAt_21 rfl rfl ?_ (by decide) ?_
      all_goals (first | with_reducible rfl | (simp_all [-Int32.not_lt, -Int32.not_le, sm_V, f_hasP, f_hasS, f_isAt, sm_b_e0, sm_b_e1, sm_b_0e, sm_b_1e, sm_V0]))
    · refine sw_iconst (v := 1) dX0_isShipAt_16 (by decide) ?_
      refine sw_goto (tgt := 21) dX0_isShipAt_17 (by decide) ?_
      refine sw_zret dX0_isShipAt_21 rfl rfl ?_ (by decide) ?_
      all_goals (first | with_reducible rfl | (simp_all [-Int32.not_lt, -Int32.not_le, sm_V, f_hasP, f_hasS, f_isAt, sm_b_e0, sm_b_e1, sm_b_0e, sm_b_1e, sm_V0]))

theorem c_moveShip {σ : sm_St} {k : Nat} (hk : sm_isF k) (x y : Int32) : sm_C yX0_moveShip cX0_moveShip 3 none 0 [.ref k, .int x, .int y] σ none (sm_set (sm_set σ k 0 x) k 1 y) := by
  refine sm_C.of (own := RX0) (by decide) rfl (Nat.le_of_ble_eq_true rfl) ?_
  show sm_W RX0 cX0_moveShip 3 none 0 none (sm_set (sm_set σ k 0 x) k 1 y) 0 [(0, .ref k), (1, .int x), (2, .int y)] [] σ
  refine sw_aload_n dX0_moveShip_0 rfl ?_
  refine sw_iload_n dX0_moveShip_1 rfl ?_
  refine sw_put dX0_moveShip_2 fl_X0_33 fi_0_0 (sm_Fo hk) rfl ?_
  refine sw_aload_n dX0_moveShip_5 rfl ?_
  refine sw_iload_n dX0_moveShip_6 rfl ?_
  refine sw_put dX0_moveShip_7 fl_X0_37 fi_0_1 (sm_Fo hk) rfl ?_
  refine sw_vret dX0_moveShip_10 rfl rfl ?_
  all_goals (first | with_reducible rfl | (rfl))

theorem c_apart {σ : sm_St} {k : Nat} (hk : sm_isF k) (p : Int32) : sm_C yX0_apart cX0_apart 2 (some .int) 2 [.ref k, .int p] σ (some (.int (f_apart (sm_V σ k) p))) σ := by
  refine sm_C.of (own := RX0) (by decide) rfl (Nat.le_of_ble_eq_true rfl) ?_
  show sm_W RX0 cX0_apart 2 (some .int) 2 (some (.int (f_apart (sm_V σ k) p))) σ 0 [(0, .ref k), (1, .int p)] [] σ
  refine sw_aload_n dX0_apart_0 rfl ?_
  refine sw_getR (j := k + 1) dX0_apart_1 fl_X0_9 (sm_Fo hk) rfl ?_
  refine sw_iload_n dX0_apart_4 rfl ?_
  refine sw_callS dX0_apart_5 lS_X0_72 (c_at (sm_Fa1 hk) _) rfl rfl (Nat.le_of_ble_eq_true rfl) (Nat.le_of_ble_eq_true rfl) ?_
  refine sw_aload_n dX0_apart_8 rfl ?_
  refine sw_getI dX0_apart_9 fl_X0_33 (sm_Fo hk) rfl ?_
  refine sw_isub dX0_apart_12 ?_
  refine sw_ab dX0_apart_13 lJ_X0_76 (Nat.le_of_ble_eq_true rfl) (Nat.le_of_ble_eq_true rfl) ?_
  refine sw_aload_n dX0_apart_16 rfl ?_
  refine sw_getR (j := k + 2) dX0_apart_17 fl_X0_15 (sm_Fo hk) rfl ?_
  refine sw_iload_n dX0_apart_20 rfl ?_
  refine sw_callS dX0_apart_21 lS_X0_72 (c_at (sm_Fa2 hk) _) rfl rfl (Nat.le_of_ble_eq_true rfl) (Nat.le_of_ble_eq_true rfl) ?_
  refine sw_aload_n dX0_apart_24 rfl ?_
  refine sw_getI dX0_apart_25 fl_X0_37 (sm_Fo hk) rfl ?_
  refine sw_isub dX0_apart_28 ?_
  refine sw_ab dX0_apart_29 lJ_X0_76 (Nat.le_of_ble_eq_true rfl) (Nat.le_of_ble_eq_true rfl) ?_
  refine sw_iadd dX0_apart_32 ?_
  refine sw_iret dX0_apart_33 rfl rfl ?_ ?_
  all_goals (first | with_reducible rfl | (rfl))

theorem l_nearest {σ : sm_St} {k : Nat} (hk : sm_isF k) (c w : Int32) : ∀ n i : Nat, (σ k 6).toNatClampNeg - i < n → i ≤ (σ k 6).toNatClampNeg → sm_W RX0 cX0_nearestPost 7 (some .int) 3 (some (.int ((f_near (sm_V σ k) w (σ k 6).toNatClampNeg).1))) σ 18 [(0, .ref k), (1, .int c), (2, .int w), (3, .int (f_near (sm_V σ k) w i).1), (4, .int (f_near (sm_V σ k) w i).2), (5, .int (nI i))] [] σ := by
  intro n
  induction n with
  | zero => intro i h1 h2; omega
  | succ n ih =>
    intro i h1 h2
    have hib : i < 2 ^ 31 := Nat.lt_of_le_of_lt h2 (sm_clamp_lt _)
    refine sw_iload dX0_nearestPost_18 rfl ?_
    refine sw_aload_n dX0_nearestPost_20 rfl ?_
    refine sw_getI dX0_nearestPost_21 fl_X0_52 (sm_Fo hk) rfl ?_
    refine sw_icmp_ge (tgt := 86) dX0_nearestPost_24 (by decide) (fun h24 => ?_) (fun h24 => ?_)
    · have hge : (σ k 6).toNatClampNeg ≤ i := (sm_le_clamp hib).mp h24
      refine sw_iload_n dX0_nearestPost_86 rfl ?_
      refine sw_iret dX0_nearestPost_87 rfl rfl ?_ ?_
      all_goals (first | with_reducible rfl | (rw [show i = (σ k 6).toNatClampNeg by omega]))
    · have hlt : i < (σ k 6).toNatClampNeg := by rw [sm_le_clamp hib] at h24; omega
      refine sw_aload_n dX0_nearestPost_27 rfl ?_
      refine sw_getR (j := k + 3) dX0_nearestPost_28 fl_X0_18 (sm_Fo hk) rfl ?_
      refine sw_iload dX0_nearestPost_31 rfl ?_
      refine sw_callS dX0_nearestPost_33 lS_X0_72 (c_at (sm_Fa3 hk) _) rfl rfl (Nat.le_of_ble_eq_true rfl) (Nat.le_of_ble_eq_true rfl) ?_
      refine sw_iload_n dX0_nearestPost_36 rfl ?_
      refine sw_icmp_ne (tgt := 80) dX0_nearestPost_37 (by decide) (fun h37 => ?_) (fun h37 => ?_)
      · refine sw_iinc dX0_nearestPost_80 rfl rfl (by decide) rfl ?_
        refine sw_goto (tgt := 18) dX0_nearestPost_83 (by decide) ?_
        refine sw_lv (ih (i + 1) (by omega) (by omega)) (And.intro rfl (And.intro rfl (And.intro rfl (And.intro (sm_e rfl ?_) (And.intro (sm_e rfl ?_) (And.intro (sm_e rfl ?_) trivial))))))
        all_goals (simp_all [-Int32.not_lt, -Int32.not_le, sm_V, sm_i1, f_near, nI_succ])
      · refine sw_aload_n dX0_nearestPost_40 rfl ?_
        refine sw_getR (j := k + 4) dX0_nearestPost_41 fl_X0_21 (sm_Fo hk) rfl ?_
        refine sw_iload dX0_nearestPost_44 rfl ?_
        refine sw_callS dX0_nearestPost_46 lS_X0_72 (c_at (sm_Fa4 hk) _) rfl rfl (Nat.le_of_ble_eq_true rfl) (Nat.le_of_ble_eq_true rfl) ?_
        refine sw_if_ne (tgt := 80) dX0_nearestPost_49 (by decide) (fun h49 => ?_) (fun h49 => ?_)
        · refine sw_iinc dX0_nearestPost_80 rfl rfl (by decide) rfl ?_
          refine sw_goto (tgt := 18) dX0_nearestPost_83 (by decide) ?_
          refine sw_lv (ih (i + 1) (by omega) (by omega)) (And.intro rfl (And.intro rfl (And.intro rfl (And.intro (sm_e rfl ?_) (And.intro (sm_e rfl ?_) (And.intro (sm_e rfl ?_) trivial))))))
          all_goals (simp_all [-Int32.not_lt, -Int32.not_le, sm_V, sm_i1, f_near, nI_succ])
        · refine sw_aload_n dX0_nearestPost_52 rfl ?_
          refine sw_iload dX0_nearestPost_53 rfl ?_
          refine sw_callV dX0_nearestPost_55 lV_X0_82 (c_apart (k := k) hk _) (sm_Fo hk) rfl rfl rfl (Nat.le_of_ble_eq_true rfl) (Nat.le_of_ble_eq_true rfl) ?_
          refine sw_istore dX0_nearestPost_58 (by decide) rfl ?_
          refine sw_iload_n dX0_nearestPost_60 rfl ?_
          refine sw_bipush (v := -4) dX0_nearestPost_61 (by decide) ?_
          refine sw_icmp_eq (tgt := 73) dX0_nearestPost_63 (by decide) (fun h63 => ?_) (fun h63 => ?_)
          · refine sw_iload dX0_nearestPost_73 rfl ?_
            refine sw_istore_n dX0_nearestPost_75 (by decide) rfl ?_
            refine sw_iload dX0_nearestPost_76 rfl ?_
            refine sw_istore dX0_nearestPost_78 (by decide) rfl ?_
            refine sw_iinc dX0_nearestPost_80 rfl rfl (by decide) rfl ?_
            refine sw_goto (tgt := 18) dX0_nearestPost_83 (by decide) ?_
            refine sw_lv (ih (i + 1) (by omega) (by omega)) (And.intro rfl (And.intro rfl (And.intro rfl (And.intro (sm_e rfl ?_) (And.intro (sm_e rfl ?_) (And.intro (sm_e rfl ?_) trivial))))))
            all_goals (simp_all [-Int32.not_lt, -Int32.not_le, sm_V, sm_i1, f_near, nI_succ])
          · refine sw_iload dX0_nearestPost_66 rfl ?_
            refine sw_iload dX0_nearestPost_68 rfl ?_
            refine sw_icmp_ge (tgt := 80) dX0_nearestPost_70 (by decide) (fun h70 => ?_) (fun h70 => ?_)
            · refine sw_iinc dX0_nearestPost_80 rfl rfl (by decide) rfl ?_
              refine sw_goto (tgt := 18) dX0_nearestPost_83 (by decide) ?_
              refine sw_lv (ih (i + 1) (by omega) (by omega)) (And.intro rfl (And.intro rfl (And.intro rfl (And.intro (sm_e rfl ?_) (And.intro (sm_e rfl ?_) (And.intro (sm_e rfl ?_) trivial))))))
              all_goals (simp_all [-Int32.not_lt, -Int32.not_le, sm_V, sm_i1, f_near, nI_succ])
            · refine sw_iload dX0_nearestPost_73 rfl ?_
              refine sw_istore_n dX0_nearestPost_75 (by decide) rfl ?_
              refine sw_iload dX0_nearestPost_76 rfl ?_
              refine sw_istore dX0_nearestPost_78 (by decide) rfl ?_
              refine sw_iinc dX0_nearestPost_80 rfl rfl (by decide) rfl ?_
              refine sw_goto (tgt := 18) dX0_nearestPost_83 (by decide) ?_
              refine sw_lv (ih (i + 1) (by omega) (by omega)) (And.intro rfl (And.intro rfl (And.intro rfl (And.intro (sm_e rfl ?_) (And.intro (sm_e rfl ?_) (And.intro (sm_e rfl ?_) trivial))))))
              all_goals (simp_all [-Int32.not_lt, -Int32.not_le, sm_V, sm_i1, f_near, nI_succ])

theorem c_nearestPost {σ : sm_St} {k : Nat} (hk : sm_isF k) (c : Int32) : sm_C yX0_nearestPost cX0_nearestPost 7 (some .int) 3 [.ref k, .int c] σ (some (.int (f_nearest (sm_V σ k) c))) σ := by
  refine sm_C.of (own := RX0) (by decide) rfl (Nat.le_of_ble_eq_true rfl) ?_
  show sm_W RX0 cX0_nearestPost 7 (some .int) 3 (some (.int (f_nearest (sm_V σ k) c))) σ 0 [(0, .ref k), (1, .int c)] [] σ
  refine sw_aload_n dX0_nearestPost_0 rfl ?_
  refine sw_getR (j := k + 6) dX0_nearestPost_1 fl_X0_27 (sm_Fo hk) rfl ?_
  refine sw_iload_n dX0_nearestPost_4 rfl ?_
  refine sw_callS dX0_nearestPost_5 lS_X0_72 (c_at (sm_Fa6 hk) _) rfl rfl (Nat.le_of_ble_eq_true rfl) (Nat.le_of_ble_eq_true rfl) ?_
  refine sw_istore_n dX0_nearestPost_8 (by decide) rfl ?_
  refine sw_bipush (v := -4) dX0_nearestPost_9 (by decide) ?_
  refine sw_istore_n dX0_nearestPost_11 (by decide) rfl ?_
  refine sw_iconst (v := 0) dX0_nearestPost_12 (by decide) ?_
  refine sw_istore dX0_nearestPost_13 (by decide) rfl ?_
  refine sw_iconst (v := 0) dX0_nearestPost_15 (by decide) ?_
  refine sw_istore dX0_nearestPost_16 (by decide) rfl ?_
  refine sw_lv (l_nearest hk c _ _ 0 (Nat.lt_succ_self _) (Nat.zero_le _)) (And.intro rfl (And.intro rfl (And.intro rfl (And.intro (sm_e rfl ?_) (And.intro (sm_e rfl ?_) (And.intro (sm_e rfl ?_) trivial))))))
  all_goals (rfl)

theorem c_strengthTo {σ : sm_St} {k : Nat} (hk : sm_isF k) (c p : Int32) : sm_C yX0_strengthTo cX0_strengthTo 5 (some .int) 3 [.ref k, .int c, .int p] σ (some (.int (f_str (sm_V σ k) c p))) σ := by
  refine sm_C.of (own := RX0) (by decide) rfl (Nat.le_of_ble_eq_true rfl) ?_
  show sm_W RX0 cX0_strengthTo 5 (some .int) 3 (some (.int (f_str (sm_V σ k) c p))) σ 0 [(0, .ref k), (1, .int c), (2, .int p)] [] σ
  refine sw_aload_n dX0_strengthTo_0 rfl ?_
  refine sw_iload_n dX0_strengthTo_1 rfl ?_
  refine sw_callV dX0_strengthTo_2 lV_X0_85 (c_hasPost (k := k) hk _) (sm_Fo hk) rfl rfl rfl (Nat.le_of_ble_eq_true rfl) (Nat.le_of_ble_eq_true rfl) ?_
  refine sw_if_eq (tgt := 16) dX0_strengthTo_5 (by decide) (fun h5 => ?_) (fun h5 => ?_)
  · refine sw_iconst (v := 0) dX0_strengthTo_16 (by decide) ?_
    refine sw_istore_n dX0_strengthTo_17 (by decide) rfl ?_
    refine sw_iload_n dX0_strengthTo_18 rfl ?_
    refine sw_if_ne (tgt := 24) dX0_strengthTo_19 (by decide) (fun h => absurd h (by decide)) (fun _ => ?_)
    refine sw_iconst (v := 0) dX0_strengthTo_22 (by decide) ?_
    refine sw_iret dX0_strengthTo_23 rfl rfl ?_ ?_
    all_goals (first | with_reducible rfl | (simp_all [-Int32.not_lt, -Int32.not_le, sm_V, f_str, f_far, f_by, sm_b_e0, sm_b_e1, sm_b_0e, sm_b_1e]))
  · refine sw_aload_n dX0_strengthTo_8 rfl ?_
    refine sw_iload_n dX0_strengthTo_9 rfl ?_
    refine sw_callV dX0_strengthTo_10 lV_X0_82 (c_apart (k := k) hk _) (sm_Fo hk) rfl rfl rfl (Nat.le_of_ble_eq_true rfl) (Nat.le_of_ble_eq_true rfl) ?_
    refine sw_goto (tgt := 17) dX0_strengthTo_13 (by decide) ?_
    refine sw_istore_n dX0_strengthTo_17 (by decide) rfl ?_
    refine sw_iload_n dX0_strengthTo_18 rfl ?_
    refine sw_if_ne (tgt := 24) dX0_strengthTo_19 (by decide) (fun h19 => ?_) (fun h19 => ?_)
    · refine sw_aload_n dX0_strengthTo_24 rfl ?_
      refine sw_getR (j := k + 7) dX0_strengthTo_25 fl_X0_30 (sm_Fo hk) rfl ?_
      refine sw_iload_n dX0_strengthTo_28 rfl ?_
      refine sw_callS dX0_strengthTo_29 lS_X0_72 (c_at (sm_Fa7 hk) _) rfl rfl (Nat.le_of_ble_eq_true rfl) (Nat.le_of_ble_eq_true rfl) ?_
      refine sw_istore dX0_strengthTo_32 (by decide) rfl ?_
      refine sw_aload_n dX0_strengthTo_34 rfl ?_
      refine sw_getR (j := k + 5) dX0_strengthTo_35 fl_X0_24 (sm_Fo hk) rfl ?_
      refine sw_iload_n dX0_strengthTo_38 rfl ?_
      refine sw_callS dX0_strengthTo_39 lS_X0_72 (c_at (sm_Fa5 hk) _) rfl rfl (Nat.le_of_ble_eq_true rfl) (Nat.le_of_ble_eq_true rfl) ?_
      refine sw_tab_X0_strengthTo_42 (fun h42_1 => ?_) (fun h42_2 => ?_) (fun h42_3 => ?_) (fun h42n1 h42n2 h42n3 => ?_)
      · refine sw_iload dX0_strengthTo_68 rfl ?_
        refine sw_iret dX0_strengthTo_70 rfl rfl ?_ ?_
        all_goals (first | with_reducible rfl | (simp_all [-Int32.not_lt, -Int32.not_le, sm_V, f_str, f_far, f_by, sm_b_e0, sm_b_e1, sm_b_0e, sm_b_1e]))
      · refine sw_bipush (v := 12) dX0_strengthTo_71 (by decide) ?_
        refine sw_iload dX0_strengthTo_73 rfl ?_
        refine sw_iload_n dX0_strengthTo_75 rfl ?_
        refine sw_iadd dX0_strengthTo_76 ?_
        refine sw_min dX0_strengthTo_77 lJ_X0_89 (Nat.le_of_ble_eq_true rfl) (Nat.le_of_ble_eq_true rfl) ?_
        refine sw_iret dX0_strengthTo_80 rfl rfl ?_ ?_
        all_goals (first | with_reducible rfl | (simp_all [-Int32.not_lt, -Int32.not_le, sm_V, f_str, f_far, f_by, sm_b_e0, sm_b_e1, sm_b_0e, sm_b_1e]))
      · refine sw_iload_n dX0_strengthTo_81 rfl ?_
        refine sw_iconst (v := 2) dX0_strengthTo_82 (by decide) ?_
        refine sw_icmp_gt (tgt := 93) dX0_strengthTo_83 (by decide) (fun h83 => ?_) (fun h83 => ?_)
        · refine sw_iconst (v := 0) dX0_strengthTo_93 (by decide) ?_
          refine sw_iret dX0_strengthTo_94 rfl rfl ?_ ?_
          all_goals (first | with_reducible rfl | (simp_all [-Int32.not_lt, -Int32.not_le, sm_V, f_str, f_far, f_by, sm_b_e0, sm_b_e1, sm_b_0e, sm_b_1e]))
        · refine sw_iconst (v := 2) dX0_strengthTo_86 (by decide) ?_
          refine sw_iload dX0_strengthTo_87 rfl ?_
          refine sw_imul dX0_strengthTo_89 ?_
          refine sw_goto (tgt := 94) dX0_strengthTo_90 (by decide) ?_
          refine sw_iret dX0_strengthTo_94 rfl rfl ?_ ?_
          all_goals (first | with_reducible rfl | (simp_all [-Int32.not_lt, -Int32.not_le, sm_V, f_str, f_far, f_by, sm_b_e0, sm_b_e1, sm_b_0e, sm_b_1e]))
      · refine sw_iconst (v := 0) dX0_strengthTo_95 (by decide) ?_
        refine sw_iload dX0_strengthTo_96 rfl ?_
        refine sw_iload_n dX0_strengthTo_98 rfl ?_
        refine sw_isub dX0_strengthTo_99 ?_
        refine sw_max dX0_strengthTo_100 lJ_X0_93 (Nat.le_of_ble_eq_true rfl) (Nat.le_of_ble_eq_true rfl) ?_
        refine sw_iret dX0_strengthTo_103 rfl rfl ?_ ?_
        all_goals (first | with_reducible rfl | (simp_all [-Int32.not_lt, -Int32.not_le, sm_V, f_str, f_far, f_by, sm_b_e0, sm_b_e1, sm_b_0e, sm_b_1e]))
    · refine sw_iconst (v := 0) dX0_strengthTo_22 (by decide) ?_
      refine sw_iret dX0_strengthTo_23 rfl rfl ?_ ?_
      all_goals (first | with_reducible rfl | (simp_all [-Int32.not_lt, -Int32.not_le, sm_V, f_str, f_far, f_by, sm_b_e0, sm_b_e1, sm_b_0e, sm_b_1e]))

theorem c_headingTo {σ : sm_St} {k : Nat} (hk : sm_isF k) (p s : Int32) : sm_C yX0_headingTo cX0_headingTo 5 (some .int) 3 [.ref k, .int p, .int s] σ (some (.int (f_head (sm_V σ k) p s))) σ := by
  refine sm_C.of (own := RX0) (by decide) rfl (Nat.le_of_ble_eq_true rfl) ?_
  show sm_W RX0 cX0_headingTo 5 (some .int) 3 (some (.int (f_head (sm_V σ k) p s))) σ 0 [(0, .ref k), (1, .int p), (2, .int s)] [] σ
  refine sw_iload_n dX0_headingTo_0 rfl ?_
  refine sw_if_eq (tgt := 12) dX0_headingTo_1 (by decide) (fun h1 => ?_) (fun h1 => ?_)
  · refine sw_iconst (v := 0) dX0_headingTo_12 (by decide) ?_
    refine sw_iret dX0_headingTo_13 rfl rfl ?_ ?_
    all_goals (first | with_reducible rfl | (simp_all [-Int32.not_lt, -Int32.not_le, sm_V, f_head, f_dir, sm_b_e0, sm_b_e1, sm_b_0e, sm_b_1e]))
  · refine sw_aload_n dX0_headingTo_4 rfl ?_
    refine sw_iload_n dX0_headingTo_5 rfl ?_
    refine sw_callV dX0_headingTo_6 lV_X0_85 (c_hasPost (k := k) hk _) (sm_Fo hk) rfl rfl rfl (Nat.le_of_ble_eq_true rfl) (Nat.le_of_ble_eq_true rfl) ?_
    refine sw_if_ne (tgt := 14) dX0_headingTo_9 (by decide) (fun h9 => ?_) (fun h9 => ?_)
    · refine sw_aload_n dX0_headingTo_14 rfl ?_
      refine sw_getR (j := k + 1) dX0_headingTo_15 fl_X0_9 (sm_Fo hk) rfl ?_
      refine sw_iload_n dX0_headingTo_18 rfl ?_
      refine sw_callS dX0_headingTo_19 lS_X0_72 (c_at (sm_Fa1 hk) _) rfl rfl (Nat.le_of_ble_eq_true rfl) (Nat.le_of_ble_eq_true rfl) ?_
      refine sw_aload_n dX0_headingTo_22 rfl ?_
      refine sw_getI dX0_headingTo_23 fl_X0_33 (sm_Fo hk) rfl ?_
      refine sw_isub dX0_headingTo_26 ?_
      refine sw_istore_n dX0_headingTo_27 (by decide) rfl ?_
      refine sw_aload_n dX0_headingTo_28 rfl ?_
      refine sw_getR (j := k + 2) dX0_headingTo_29 fl_X0_15 (sm_Fo hk) rfl ?_
      refine sw_iload_n dX0_headingTo_32 rfl ?_
      refine sw_callS dX0_headingTo_33 lS_X0_72 (c_at (sm_Fa2 hk) _) rfl rfl (Nat.le_of_ble_eq_true rfl) (Nat.le_of_ble_eq_true rfl) ?_
      refine sw_aload_n dX0_headingTo_36 rfl ?_
      refine sw_getI dX0_headingTo_37 fl_X0_37 (sm_Fo hk) rfl ?_
      refine sw_isub dX0_headingTo_40 ?_
      refine sw_istore dX0_headingTo_41 (by decide) rfl ?_
      refine sw_iload_n dX0_headingTo_43 rfl ?_
      refine sw_ab dX0_headingTo_44 lJ_X0_76 (Nat.le_of_ble_eq_true rfl) (Nat.le_of_ble_eq_true rfl) ?_
      refine sw_iload dX0_headingTo_47 rfl ?_
      refine sw_ab dX0_headingTo_49 lJ_X0_76 (Nat.le_of_ble_eq_true rfl) (Nat.le_of_ble_eq_true rfl) ?_
      refine sw_icmp_lt (tgt := 65) dX0_headingTo_52 (by decide) (fun h52 => ?_) (fun h52 => ?_)
      · refine sw_iload dX0_headingTo_65 rfl ?_
        refine sw_if_le (tgt := 74) dX0_headingTo_67 (by decide) (fun h67 => ?_) (fun h67 => ?_)
        · refine sw_iconst (v := 1) dX0_headingTo_74 (by decide) ?_
          refine sw_iret dX0_headingTo_75 rfl rfl ?_ ?_
          all_goals (first | with_reducible rfl | (simp_all [-Int32.not_lt, -Int32.not_le, sm_V, f_head, f_dir, sm_b_e0, sm_b_e1, sm_b_0e, sm_b_1e]))
        · refine sw_iconst (v := 3) dX0_headingTo_70 (by decide) ?_
          refine sw_goto (tgt := 75) dX0_headingTo_71 (by decide) ?_
          refine sw_iret dX0_headingTo_75 rfl rfl ?_ ?_
          all_goals (first | with_reducible rfl | (simp_all [-Int32.not_lt, -Int32.not_le, sm_V, f_head, f_dir, sm_b_e0, sm_b_e1, sm_b_0e, sm_b_1e]))
      · refine sw_iload_n dX0_headingTo_55 rfl ?_
        refine sw_if_le (tgt := 63) dX0_headingTo_56 (by decide) (fun h56 => ?_) (fun h56 => ?_)
        · refine sw_iconst (v := 4) dX0_headingTo_63 (by decide) ?_
          refine sw_iret dX0_headingTo_64 rfl rfl ?_ ?_
          all_goals (first | with_reducible rfl | (simp_all [-Int32.not_lt, -Int32.not_le, sm_V, f_head, f_dir, sm_b_e0, sm_b_e1, sm_b_0e, sm_b_1e]))
        · refine sw_iconst (v := 2) dX0_headingTo_59 (by decide) ?_
          refine sw_goto (tgt := 64) dX0_headingTo_60 (by decide) ?_
          refine sw_iret dX0_headingTo_64 rfl rfl ?_ ?_
          all_goals (first | with_reducible rfl | (simp_all [-Int32.not_lt, -Int32.not_le, sm_V, f_head, f_dir, sm_b_e0, sm_b_e1, sm_b_0e, sm_b_1e]))
    · refine sw_iconst (v := 0) dX0_headingTo_12 (by decide) ?_
      refine sw_iret dX0_headingTo_13 rfl rfl ?_ ?_
      all_goals (first | with_reducible rfl | (simp_all [-Int32.not_lt, -Int32.not_le, sm_V, f_head, f_dir, sm_b_e0, sm_b_e1, sm_b_0e, sm_b_1e]))

theorem c_addPull {σ : sm_St} {k : Nat} (hk : sm_isF k) (t f : Int32) : sm_C yX0_addPull cX0_addPull 3 none 2 [.ref k, .int t, .int f] σ none (sm_set (sm_set σ k 8 (σ k 8 + r_at sm_sx 5 t * f)) k 9 (σ k 9 + r_at sm_sy 5 t * f)) := by
  refine sm_C.of (own := RX0) (by decide) rfl (Nat.le_of_ble_eq_true rfl) ?_
  show sm_W RX0 cX0_addPull 3 none 2 none (sm_set (sm_set σ k 8 (σ k 8 + r_at sm_sx 5 t * f)) k 9 (σ k 9 + r_at sm_sy 5 t * f)) 0 [(0, .ref k), (1, .int t), (2, .int f)] [] σ
  refine sw_aload_n dX0_addPull_0 rfl ?_
  refine sw_dup dX0_addPull_1 rfl ?_
  refine sw_getI dX0_addPull_2 fl_X0_96 (sm_Fo hk) rfl ?_
  refine sw_getX dX0_addPull_5 fs_X0_99 ?_
  refine sw_iload_n dX0_addPull_8 rfl ?_
  refine sw_callS dX0_addPull_9 lS_X0_72 (c_atX _) rfl rfl (Nat.le_of_ble_eq_true rfl) (Nat.le_of_ble_eq_true rfl) ?_
  refine sw_iload_n dX0_addPull_12 rfl ?_
  refine sw_imul dX0_addPull_13 ?_
  refine sw_iadd dX0_addPull_14 ?_
  refine sw_put dX0_addPull_15 fl_X0_96 fi_0_8 (sm_Fo hk) rfl ?_
  refine sw_aload_n dX0_addPull_18 rfl ?_
  refine sw_dup dX0_addPull_19 rfl ?_
  refine sw_getI dX0_addPull_20 fl_X0_102 (sm_Fo hk) rfl ?_
  refine sw_getY dX0_addPull_23 fs_X0_105 ?_
  refine sw_iload_n dX0_addPull_26 rfl ?_
  refine sw_callS dX0_addPull_27 lS_X0_72 (c_atY _) rfl rfl (Nat.le_of_ble_eq_true rfl) (Nat.le_of_ble_eq_true rfl) ?_
  refine sw_iload_n dX0_addPull_30 rfl ?_
  refine sw_imul dX0_addPull_31 ?_
  refine sw_iadd dX0_addPull_32 ?_
  refine sw_put dX0_addPull_33 fl_X0_102 fi_0_9 (sm_Fo hk) rfl ?_
  refine sw_vret dX0_addPull_36 rfl rfl ?_
  all_goals (first | with_reducible rfl | (simp [sm_set_ne]))
end
section
theorem sm_89 {σ : sm_St} {k : Nat} {a b c d : Int32} : sm_set (sm_set (sm_set (sm_set σ k 8 a) k 9 b) k 8 c) k 9 d = sm_set (sm_set σ k 8 c) k 9 d := by
  rw [sm_set_comm (i := 9) (j := 8) (by decide), sm_set_set, sm_set_set]
theorem g_goes_8 {σ : sm_St} {k : Nat} : g_goes σ k k 8 = f_R (sm_V σ k) := by unfold g_goes; rw [sm_set_ne (by decide), sm_set_eq]
theorem g_goes_9 {σ : sm_St} {k : Nat} : g_goes σ k k 9 = f_D (sm_V σ k) := by unfold g_goes; rw [sm_set_eq]
theorem g_goes_o {σ : sm_St} {k j : Nat} (h : j < 8) : g_goes σ k k j = σ k j := by unfold g_goes; rw [sm_set_ne (by omega), sm_set_ne (by omega)]

set_option maxHeartbeats 4000000 in
theorem l_goesTo {σ : sm_St} {k : Nat} (hk : sm_isF k) : ∀ n i : Nat, (σ k 7).toNatClampNeg - i < n → i ≤ (σ k 7).toNatClampNeg → sm_W RX0 cX0_goesTo 4 (some .int) 4 (some (.int (f_goes (sm_V σ k)))) (g_goes σ k) 24 [(0, .ref k), (1, .int (nI i))] [] (sm_set (sm_set σ k 8 (f_pull (sm_V σ k) i).1) k 9 (f_pull (sm_V σ k) i).2) := by
  intro n
  induction n with
  | zero => intro i h1 h2; omega
  | succ n ih =>
    intro i h1 h2
    have hib : i < 2 ^ 31 := Nat.lt_of_le_of_lt h2 (sm_clamp_lt _)
    refine sw_iload_n dX0_goesTo_24 rfl ?_
    refine sw_aload_n dX0_goesTo_25 rfl ?_
    refine sw_getI dX0_goesTo_26 fl_X0_55 (sm_Fo hk) rfl ?_
    refine sw_icmp_ge (tgt := 62) dX0_goesTo_29 (by decide) (fun h29 => ?_) (fun h29 => ?_)
    · clear ih
      rw [sm_set_ne (by decide), sm_set_ne (by decide), sm_le_clamp hib] at h29
      have e : i = (σ k 7).toNatClampNeg := by omega
      subst e
      refine sw_st (σ2 := g_goes σ k) rfl ?_
      refine sw_aload_n dX0_goesTo_62 rfl ?_
      refine sw_getI dX0_goesTo_63 fl_X0_96 (sm_Fo hk) rfl ?_
      refine sw_ab dX0_goesTo_66 lJ_X0_76 (Nat.le_of_ble_eq_true rfl) (Nat.le_of_ble_eq_true rfl) ?_
      refine sw_istore_n dX0_goesTo_69 (by decide) rfl ?_
      refine sw_aload_n dX0_goesTo_70 rfl ?_
      refine sw_getI dX0_goesTo_71 fl_X0_102 (sm_Fo hk) rfl ?_
      refine sw_ab dX0_goesTo_74 lJ_X0_76 (Nat.le_of_ble_eq_true rfl) (Nat.le_of_ble_eq_true rfl) ?_
      refine sw_istore_n dX0_goesTo_77 (by decide) rfl ?_
      refine sw_iload_n dX0_goesTo_78 rfl ?_
      refine sw_aload_n dX0_goesTo_79 rfl ?_
      refine sw_getI dX0_goesTo_80 fl_X0_40 (sm_Fo hk) rfl ?_
      refine sw_icmp_gt (tgt := 96) dX0_goesTo_83 (by decide) (fun h83 => ?_) (fun h83 => ?_)
      · refine sw_aload_n dX0_goesTo_96 rfl ?_
        refine sw_getI dX0_goesTo_97 fl_X0_102 (sm_Fo hk) rfl ?_
        refine sw_if_le (tgt := 107) dX0_goesTo_100 (by decide) (fun h100 => ?_) (fun h100 => ?_)
        · refine sw_iconst (v := 1) dX0_goesTo_107 (by decide) ?_
          refine sw_istore_n dX0_goesTo_108 (by decide) rfl ?_
          refine sw_iload_n dX0_goesTo_109 rfl ?_
          refine sw_iload_n dX0_goesTo_110 rfl ?_
          refine sw_icmp_lt (tgt := 127) dX0_goesTo_111 (by decide) (fun h111 => ?_) (fun h111 => ?_)
          · refine sw_aload_n dX0_goesTo_127 rfl ?_
            refine sw_getI dX0_goesTo_128 fl_X0_33 (sm_Fo hk) rfl ?_
            refine sw_getX dX0_goesTo_131 fs_X0_99 ?_
            refine sw_iload_n dX0_goesTo_134 rfl ?_
            refine sw_callS dX0_goesTo_135 lS_X0_72 (c_atX _) rfl rfl (Nat.le_of_ble_eq_true rfl) (Nat.le_of_ble_eq_true rfl) ?_
            refine sw_iadd dX0_goesTo_138 ?_
            refine sw_aload_n dX0_goesTo_139 rfl ?_
            refine sw_getI dX0_goesTo_140 fl_X0_37 (sm_Fo hk) rfl ?_
            refine sw_getY dX0_goesTo_143 fs_X0_105 ?_
            refine sw_iload_n dX0_goesTo_146 rfl ?_
            refine sw_callS dX0_goesTo_147 lS_X0_72 (c_atY _) rfl rfl (Nat.le_of_ble_eq_true rfl) (Nat.le_of_ble_eq_true rfl) ?_
            refine sw_iadd dX0_goesTo_150 ?_
            refine sw_callN dX0_goesTo_151 lN_X0_121 (c_isCell _ _) (fun h => h.2.2.1) rfl rfl (Nat.le_of_ble_eq_true rfl) (Nat.le_of_ble_eq_true rfl) ?_
            refine sw_if_eq (tgt := 161) dX0_goesTo_154 (by decide) (fun h154 => ?_) (fun h154 => ?_)
            · refine sw_iconst (v := 0) dX0_goesTo_161 (by decide) ?_
              refine sw_iret dX0_goesTo_162 rfl rfl ?_ ?_
              all_goals (first | with_reducible rfl | (simp_all [-Int32.not_lt, -Int32.not_le, f_goes, f_to, f_dir, sm_b_e0, sm_b_e1, sm_b_0e, sm_b_1e, sm_V0, g_goes_8, g_goes_9, g_goes_o]))
            · refine sw_iload_n dX0_goesTo_157 rfl ?_
              refine sw_goto (tgt := 162) dX0_goesTo_158 (by decide) ?_
              refine sw_iret dX0_goesTo_162 rfl rfl ?_ ?_
              all_goals (first | with_reducible rfl | (simp_all [-Int32.not_lt, -Int32.not_le, f_goes, f_to, f_dir, sm_b_e0, sm_b_e1, sm_b_0e, sm_b_1e, sm_V0, g_goes_8, g_goes_9, g_goes_o]))
          · refine sw_aload_n dX0_goesTo_114 rfl ?_
            refine sw_getI dX0_goesTo_115 fl_X0_96 (sm_Fo hk) rfl ?_
            refine sw_if_le (tgt := 125) dX0_goesTo_118 (by decide) (fun h118 => ?_) (fun h118 => ?_)
            · refine sw_iconst (v := 4) dX0_goesTo_125 (by decide) ?_
              refine sw_istore_n dX0_goesTo_126 (by decide) rfl ?_
              refine sw_aload_n dX0_goesTo_127 rfl ?_
              refine sw_getI dX0_goesTo_128 fl_X0_33 (sm_Fo hk) rfl ?_
              refine sw_getX dX0_goesTo_131 fs_X0_99 ?_
              refine sw_iload_n dX0_goesTo_134 rfl ?_
              refine sw_callS dX0_goesTo_135 lS_X0_72 (c_atX _) rfl rfl (Nat.le_of_ble_eq_true rfl) (Nat.le_of_ble_eq_true rfl) ?_
              refine sw_iadd dX0_goesTo_138 ?_
              refine sw_aload_n dX0_goesTo_139 rfl ?_
              refine sw_getI dX0_goesTo_140 fl_X0_37 (sm_Fo hk) rfl ?_
              refine sw_getY dX0_goesTo_143 fs_X0_105 ?_
              refine sw_iload_n dX0_goesTo_146 rfl ?_
              refine sw_callS dX0_goesTo_147 lS_X0_72 (c_atY _) rfl rfl (Nat.le_of_ble_eq_true rfl) (Nat.le_of_ble_eq_true rfl) ?_
              refine sw_iadd dX0_goesTo_150 ?_
              refine sw_callN dX0_goesTo_151 lN_X0_121 (c_isCell _ _) (fun h => h.2.2.1) rfl rfl (Nat.le_of_ble_eq_true rfl) (Nat.le_of_ble_eq_true rfl) ?_
              refine sw_if_eq (tgt := 161) dX0_goesTo_154 (by decide) (fun h154 => ?_) (fun h154 => ?_)
              · refine sw_iconst (v := 0) dX0_goesTo_161 (by decide) ?_
                refine sw_iret dX0_goesTo_162 rfl rfl ?_ ?_
                all_goals (first | with_reducible rfl | (simp_all [-Int32.not_lt, -Int32.not_le, f_goes, f_to, f_dir, sm_b_e0, sm_b_e1, sm_b_0e, sm_b_1e, sm_V0, g_goes_8, g_goes_9, g_goes_o]))
              · refine sw_iload_n dX0_goesTo_157 rfl ?_
                refine sw_goto (tgt := 162) dX0_goesTo_158 (by decide) ?_
                refine sw_iret dX0_goesTo_162 rfl rfl ?_ ?_
                all_goals (first | with_reducible rfl | (simp_all [-Int32.not_lt, -Int32.not_le, f_goes, f_to, f_dir, sm_b_e0, sm_b_e1, sm_b_0e, sm_b_1e, sm_V0, g_goes_8, g_goes_9, g_goes_o]))
            · refine sw_iconst (v := 2) dX0_goesTo_121 (by decide) ?_
              refine sw_goto (tgt := 126) dX0_goesTo_122 (by decide) ?_
              refine sw_istore_n dX0_goesTo_126 (by decide) rfl ?_
              refine sw_aload_n dX0_goesTo_127 rfl ?_
              refine sw_getI dX0_goesTo_128 fl_X0_33 (sm_Fo hk) rfl ?_
              refine sw_getX dX0_goesTo_131 fs_X0_99 ?_
              refine sw_iload_n dX0_goesTo_134 rfl ?_
              refine sw_callS dX0_goesTo_135 lS_X0_72 (c_atX _) rfl rfl (Nat.le_of_ble_eq_true rfl) (Nat.le_of_ble_eq_true rfl) ?_
              refine sw_iadd dX0_goesTo_138 ?_
              refine sw_aload_n dX0_goesTo_139 rfl ?_
              refine sw_getI dX0_goesTo_140 fl_X0_37 (sm_Fo hk) rfl ?_
              refine sw_getY dX0_goesTo_143 fs_X0_105 ?_
              refine sw_iload_n dX0_goesTo_146 rfl ?_
              refine sw_callS dX0_goesTo_147 lS_X0_72 (c_atY _) rfl rfl (Nat.le_of_ble_eq_true rfl) (Nat.le_of_ble_eq_true rfl) ?_
              refine sw_iadd dX0_goesTo_150 ?_
              refine sw_callN dX0_goesTo_151 lN_X0_121 (c_isCell _ _) (fun h => h.2.2.1) rfl rfl (Nat.le_of_ble_eq_true rfl) (Nat.le_of_ble_eq_true rfl) ?_
              refine sw_if_eq (tgt := 161) dX0_goesTo_154 (by decide) (fun h154 => ?_) (fun h154 => ?_)
              · refine sw_iconst (v := 0) dX0_goesTo_161 (by decide) ?_
                refine sw_iret dX0_goesTo_162 rfl rfl ?_ ?_
                all_goals (first | with_reducible rfl | (simp_all [-Int32.not_lt, -Int32.not_le, f_goes, f_to, f_dir, sm_b_e0, sm_b_e1, sm_b_0e, sm_b_1e, sm_V0, g_goes_8, g_goes_9, g_goes_o]))
              · refine sw_iload_n dX0_goesTo_157 rfl ?_
                refine sw_goto (tgt := 162) dX0_goesTo_158 (by decide) ?_
                refine sw_iret dX0_goesTo_162 rfl rfl ?_ ?_
                all_goals (first | with_reducible rfl | (simp_all [-Int32.not_lt, -Int32.not_le, f_goes, f_to, f_dir, sm_b_e0, sm_b_e1, sm_b_0e, sm_b_1e, sm_V0, g_goes_8, g_goes_9, g_goes_o]))
        · refine sw_iconst (v := 3) dX0_goesTo_103 (by decide) ?_
          refine sw_goto (tgt := 108) dX0_goesTo_104 (by decide) ?_
          refine sw_istore_n dX0_goesTo_108 (by decide) rfl ?_
          refine sw_iload_n dX0_goesTo_109 rfl ?_
          refine sw_iload_n dX0_goesTo_110 rfl ?_
          refine sw_icmp_lt (tgt := 127) dX0_goesTo_111 (by decide) (fun h111 => ?_) (fun h111 => ?_)
          · refine sw_aload_n dX0_goesTo_127 rfl ?_
            refine sw_getI dX0_goesTo_128 fl_X0_33 (sm_Fo hk) rfl ?_
            refine sw_getX dX0_goesTo_131 fs_X0_99 ?_
            refine sw_iload_n dX0_goesTo_134 rfl ?_
            refine sw_callS dX0_goesTo_135 lS_X0_72 (c_atX _) rfl rfl (Nat.le_of_ble_eq_true rfl) (Nat.le_of_ble_eq_true rfl) ?_
            refine sw_iadd dX0_goesTo_138 ?_
            refine sw_aload_n dX0_goesTo_139 rfl ?_
            refine sw_getI dX0_goesTo_140 fl_X0_37 (sm_Fo hk) rfl ?_
            refine sw_getY dX0_goesTo_143 fs_X0_105 ?_
            refine sw_iload_n dX0_goesTo_146 rfl ?_
            refine sw_callS dX0_goesTo_147 lS_X0_72 (c_atY _) rfl rfl (Nat.le_of_ble_eq_true rfl) (Nat.le_of_ble_eq_true rfl) ?_
            refine sw_iadd dX0_goesTo_150 ?_
            refine sw_callN dX0_goesTo_151 lN_X0_121 (c_isCell _ _) (fun h => h.2.2.1) rfl rfl (Nat.le_of_ble_eq_true rfl) (Nat.le_of_ble_eq_true rfl) ?_
            refine sw_if_eq (tgt := 161) dX0_goesTo_154 (by decide) (fun h154 => ?_) (fun h154 => ?_)
            · refine sw_iconst (v := 0) dX0_goesTo_161 (by decide) ?_
              refine sw_iret dX0_goesTo_162 rfl rfl ?_ ?_
              all_goals (first | with_reducible rfl | (simp_all [-Int32.not_lt, -Int32.not_le, f_goes, f_to, f_dir, sm_b_e0, sm_b_e1, sm_b_0e, sm_b_1e, sm_V0, g_goes_8, g_goes_9, g_goes_o]))
            · refine sw_iload_n dX0_goesTo_157 rfl ?_
              refine sw_goto (tgt := 162) dX0_goesTo_158 (by decide) ?_
              refine sw_iret dX0_goesTo_162 rfl rfl ?_ ?_
              all_goals (first | with_reducible rfl | (simp_all [-Int32.not_lt, -Int32.not_le, f_goes, f_to, f_dir, sm_b_e0, sm_b_e1, sm_b_0e, sm_b_1e, sm_V0, g_goes_8, g_goes_9, g_goes_o]))
          · refine sw_aload_n dX0_goesTo_114 rfl ?_
            refine sw_getI dX0_goesTo_115 fl_X0_96 (sm_Fo hk) rfl ?_
            refine sw_if_le (tgt := 125) dX0_goesTo_118 (by decide) (fun h118 => ?_) (fun h118 => ?_)
            · refine sw_iconst (v := 4) dX0_goesTo_125 (by decide) ?_
              refine sw_istore_n dX0_goesTo_126 (by decide) rfl ?_
              refine sw_aload_n dX0_goesTo_127 rfl ?_
              refine sw_getI dX0_goesTo_128 fl_X0_33 (sm_Fo hk) rfl ?_
              refine sw_getX dX0_goesTo_131 fs_X0_99 ?_
              refine sw_iload_n dX0_goesTo_134 rfl ?_
              refine sw_callS dX0_goesTo_135 lS_X0_72 (c_atX _) rfl rfl (Nat.le_of_ble_eq_true rfl) (Nat.le_of_ble_eq_true rfl) ?_
              refine sw_iadd dX0_goesTo_138 ?_
              refine sw_aload_n dX0_goesTo_139 rfl ?_
              refine sw_getI dX0_goesTo_140 fl_X0_37 (sm_Fo hk) rfl ?_
              refine sw_getY dX0_goesTo_143 fs_X0_105 ?_
              refine sw_iload_n dX0_goesTo_146 rfl ?_
              refine sw_callS dX0_goesTo_147 lS_X0_72 (c_atY _) rfl rfl (Nat.le_of_ble_eq_true rfl) (Nat.le_of_ble_eq_true rfl) ?_
              refine sw_iadd dX0_goesTo_150 ?_
              refine sw_callN dX0_goesTo_151 lN_X0_121 (c_isCell _ _) (fun h => h.2.2.1) rfl rfl (Nat.le_of_ble_eq_true rfl) (Nat.le_of_ble_eq_true rfl) ?_
              refine sw_if_eq (tgt := 161) dX0_goesTo_154 (by decide) (fun h154 => ?_) (fun h154 => ?_)
              · refine sw_iconst (v := 0) dX0_goesTo_161 (by decide) ?_
                refine sw_iret dX0_goesTo_162 rfl rfl ?_ ?_
                all_goals (first | with_reducible rfl | (simp_all [-Int32.not_lt, -Int32.not_le, f_goes, f_to, f_dir, sm_b_e0, sm_b_e1, sm_b_0e, sm_b_1e, sm_V0, g_goes_8, g_goes_9, g_goes_o]))
              · refine sw_iload_n dX0_goesTo_157 rfl ?_
                refine sw_goto (tgt := 162) dX0_goesTo_158 (by decide) ?_
                refine sw_iret dX0_goesTo_162 rfl rfl ?_ ?_
                all_goals (first | with_reducible rfl | (simp_all [-Int32.not_lt, -Int32.not_le, f_goes, f_to, f_dir, sm_b_e0, sm_b_e1, sm_b_0e, sm_b_1e, sm_V0, g_goes_8, g_goes_9, g_goes_o]))
            · refine sw_iconst (v := 2) dX0_goesTo_121 (by decide) ?_
              refine sw_goto (tgt := 126) dX0_goesTo_122 (by decide) ?_
              refine sw_istore_n dX0_goesTo_126 (by decide) rfl ?_
              refine sw_aload_n dX0_goesTo_127 rfl ?_
              refine sw_getI dX0_goesTo_128 fl_X0_33 (sm_Fo hk) rfl ?_
              refine sw_getX dX0_goesTo_131 fs_X0_99 ?_
              refine sw_iload_n dX0_goesTo_134 rfl ?_
              refine sw_callS dX0_goesTo_135 lS_X0_72 (c_atX _) rfl rfl (Nat.le_of_ble_eq_true rfl) (Nat.le_of_ble_eq_true rfl) ?_
              refine sw_iadd dX0_goesTo_138 ?_
              refine sw_aload_n dX0_goesTo_139 rfl ?_
              refine sw_getI dX0_goesTo_140 fl_X0_37 (sm_Fo hk) rfl ?_
              refine sw_getY dX0_goesTo_143 fs_X0_105 ?_
              refine sw_iload_n dX0_goesTo_146 rfl ?_
              refine sw_callS dX0_goesTo_147 lS_X0_72 (c_atY _) rfl rfl (Nat.le_of_ble_eq_true rfl) (Nat.le_of_ble_eq_true rfl) ?_
              refine sw_iadd dX0_goesTo_150 ?_
              refine sw_callN dX0_goesTo_151 lN_X0_121 (c_isCell _ _) (fun h => h.2.2.1) rfl rfl (Nat.le_of_ble_eq_true rfl) (Nat.le_of_ble_eq_true rfl) ?_
              refine sw_if_eq (tgt := 161) dX0_goesTo_154 (by decide) (fun h154 => ?_) (fun h154 => ?_)
              · refine sw_iconst (v := 0) dX0_goesTo_161 (by decide) ?_
                refine sw_iret dX0_goesTo_162 rfl rfl ?_ ?_
                all_goals (first | with_reducible rfl | (simp_all [-Int32.not_lt, -Int32.not_le, f_goes, f_to, f_dir, sm_b_e0, sm_b_e1, sm_b_0e, sm_b_1e, sm_V0, g_goes_8, g_goes_9, g_goes_o]))
              · refine sw_iload_n dX0_goesTo_157 rfl ?_
                refine sw_goto (tgt := 162) dX0_goesTo_158 (by decide) ?_
                refine sw_iret dX0_goesTo_162 rfl rfl ?_ ?_
                all_goals (first | with_reducible rfl | (simp_all [-Int32.not_lt, -Int32.not_le, f_goes, f_to, f_dir, sm_b_e0, sm_b_e1, sm_b_0e, sm_b_1e, sm_V0, g_goes_8, g_goes_9, g_goes_o]))
      · refine sw_iload_n dX0_goesTo_86 rfl ?_
        refine sw_aload_n dX0_goesTo_87 rfl ?_
        refine sw_getI dX0_goesTo_88 fl_X0_40 (sm_Fo hk) rfl ?_
        refine sw_icmp_gt (tgt := 96) dX0_goesTo_91 (by decide) (fun h91 => ?_) (fun h91 => ?_)
        · refine sw_aload_n dX0_goesTo_96 rfl ?_
          refine sw_getI dX0_goesTo_97 fl_X0_102 (sm_Fo hk) rfl ?_
          refine sw_if_le (tgt := 107) dX0_goesTo_100 (by decide) (fun h100 => ?_) (fun h100 => ?_)
          · refine sw_iconst (v := 1) dX0_goesTo_107 (by decide) ?_
            refine sw_istore_n dX0_goesTo_108 (by decide) rfl ?_
            refine sw_iload_n dX0_goesTo_109 rfl ?_
            refine sw_iload_n dX0_goesTo_110 rfl ?_
            refine sw_icmp_lt (tgt := 127) dX0_goesTo_111 (by decide) (fun h111 => ?_) (fun h111 => ?_)
            · refine sw_aload_n dX0_goesTo_127 rfl ?_
              refine sw_getI dX0_goesTo_128 fl_X0_33 (sm_Fo hk) rfl ?_
              refine sw_getX dX0_goesTo_131 fs_X0_99 ?_
              refine sw_iload_n dX0_goesTo_134 rfl ?_
              refine sw_callS dX0_goesTo_135 lS_X0_72 (c_atX _) rfl rfl (Nat.le_of_ble_eq_true rfl) (Nat.le_of_ble_eq_true rfl) ?_
              refine sw_iadd dX0_goesTo_138 ?_
              refine sw_aload_n dX0_goesTo_139 rfl ?_
              refine sw_getI dX0_goesTo_140 fl_X0_37 (sm_Fo hk) rfl ?_
              refine sw_getY dX0_goesTo_143 fs_X0_105 ?_
              refine sw_iload_n dX0_goesTo_146 rfl ?_
              refine sw_callS dX0_goesTo_147 lS_X0_72 (c_atY _) rfl rfl (Nat.le_of_ble_eq_true rfl) (Nat.le_of_ble_eq_true rfl) ?_
              refine sw_iadd dX0_goesTo_150 ?_
              refine sw_callN dX0_goesTo_151 lN_X0_121 (c_isCell _ _) (fun h => h.2.2.1) rfl rfl (Nat.le_of_ble_eq_true rfl) (Nat.le_of_ble_eq_true rfl) ?_
              refine sw_if_eq (tgt := 161) dX0_goesTo_154 (by decide) (fun h154 => ?_) (fun h154 => ?_)
              · refine sw_iconst (v := 0) dX0_goesTo_161 (by decide) ?_
                refine sw_iret dX0_goesTo_162 rfl rfl ?_ ?_
                all_goals (first | with_reducible rfl | (simp_all [-Int32.not_lt, -Int32.not_le, f_goes, f_to, f_dir, sm_b_e0, sm_b_e1, sm_b_0e, sm_b_1e, sm_V0, g_goes_8, g_goes_9, g_goes_o]))
              · refine sw_iload_n dX0_goesTo_157 rfl ?_
                refine sw_goto (tgt := 162) dX0_goesTo_158 (by decide) ?_
                refine sw_iret dX0_goesTo_162 rfl rfl ?_ ?_
                all_goals (first | with_reducible rfl | (simp_all [-Int32.not_lt, -Int32.not_le, f_goes, f_to, f_dir, sm_b_e0, sm_b_e1, sm_b_0e, sm_b_1e, sm_V0, g_goes_8, g_goes_9, g_goes_o]))
            · refine sw_aload_n dX0_goesTo_114 rfl ?_
              refine sw_getI dX0_goesTo_115 fl_X0_96 (sm_Fo hk) rfl ?_
              refine sw_if_le (tgt := 125) dX0_goesTo_118 (by decide) (fun h118 => ?_) (fun h118 => ?_)
              · refine sw_iconst (v := 4) dX0_goesTo_125 (by decide) ?_
                refine sw_istore_n dX0_goesTo_126 (by decide) rfl ?_
                refine sw_aload_n dX0_goesTo_127 rfl ?_
                refine sw_getI dX0_goesTo_128 fl_X0_33 (sm_Fo hk) rfl ?_
                refine sw_getX dX0_goesTo_131 fs_X0_99 ?_
                refine sw_iload_n dX0_goesTo_134 rfl ?_
                refine sw_callS dX0_goesTo_135 lS_X0_72 (c_atX _) rfl rfl (Nat.le_of_ble_eq_true rfl) (Nat.le_of_ble_eq_true rfl) ?_
                refine sw_iadd dX0_goesTo_138 ?_
                refine sw_aload_n dX0_goesTo_139 rfl ?_
                refine sw_getI dX0_goesTo_140 fl_X0_37 (sm_Fo hk) rfl ?_
                refine sw_getY dX0_goesTo_143 fs_X0_105 ?_
                refine sw_iload_n dX0_goesTo_146 rfl ?_
                refine sw_callS dX0_goesTo_147 lS_X0_72 (c_atY _) rfl rfl (Nat.le_of_ble_eq_true rfl) (Nat.le_of_ble_eq_true rfl) ?_
                refine sw_iadd dX0_goesTo_150 ?_
                refine sw_callN dX0_goesTo_151 lN_X0_121 (c_isCell _ _) (fun h => h.2.2.1) rfl rfl (Nat.le_of_ble_eq_true rfl) (Nat.le_of_ble_eq_true rfl) ?_
                refine sw_if_eq (tgt := 161) dX0_goesTo_154 (by decide) (fun h154 => ?_) (fun h154 => ?_)
                · refine sw_iconst (v := 0) dX0_goesTo_161 (by decide) ?_
                  refine sw_iret dX0_goesTo_162 rfl rfl ?_ ?_
                  all_goals (first | with_reducible rfl | (simp_all [-Int32.not_lt, -Int32.not_le, f_goes, f_to, f_dir, sm_b_e0, sm_b_e1, sm_b_0e, sm_b_1e, sm_V0, g_goes_8, g_goes_9, g_goes_o]))
                · refine sw_iload_n dX0_goesTo_157 rfl ?_
                  refine sw_goto (tgt := 162) dX0_goesTo_158 (by decide) ?_
                  refine sw_iret dX0_goesTo_162 rfl rfl ?_ ?_
                  all_goals (first | with_reducible rfl | (simp_all [-Int32.not_lt, -Int32.not_le, f_goes, f_to, f_dir, sm_b_e0, sm_b_e1, sm_b_0e, sm_b_1e, sm_V0, g_goes_8, g_goes_9, g_goes_o]))
              · refine sw_iconst (v := 2) dX0_goesTo_121 (by decide) ?_
                refine sw_goto (tgt := 126) dX0_goesTo_122 (by decide) ?_
                refine sw_istore_n dX0_goesTo_126 (by decide) rfl ?_
                refine sw_aload_n dX0_goesTo_127 rfl ?_
                refine sw_getI dX0_goesTo_128 fl_X0_33 (sm_Fo hk) rfl ?_
                refine sw_getX dX0_goesTo_131 fs_X0_99 ?_
                refine sw_iload_n dX0_goesTo_134 rfl ?_
                refine sw_callS dX0_goesTo_135 lS_X0_72 (c_atX _) rfl rfl (Nat.le_of_ble_eq_true rfl) (Nat.le_of_ble_eq_true rfl) ?_
                refine sw_iadd dX0_goesTo_138 ?_
                refine sw_aload_n dX0_goesTo_139 rfl ?_
                refine sw_getI dX0_goesTo_140 fl_X0_37 (sm_Fo hk) rfl ?_
                refine sw_getY dX0_goesTo_143 fs_X0_105 ?_
                refine sw_iload_n dX0_goesTo_146 rfl ?_
                refine sw_callS dX0_goesTo_147 lS_X0_72 (c_atY _) rfl rfl (Nat.le_of_ble_eq_true rfl) (Nat.le_of_ble_eq_true rfl) ?_
                refine sw_iadd dX0_goesTo_150 ?_
                refine sw_callN dX0_goesTo_151 lN_X0_121 (c_isCell _ _) (fun h => h.2.2.1) rfl rfl (Nat.le_of_ble_eq_true rfl) (Nat.le_of_ble_eq_true rfl) ?_
                refine sw_if_eq (tgt := 161) dX0_goesTo_154 (by decide) (fun h154 => ?_) (fun h154 => ?_)
                · refine sw_iconst (v := 0) dX0_goesTo_161 (by decide) ?_
                  refine sw_iret dX0_goesTo_162 rfl rfl ?_ ?_
                  all_goals (first | with_reducible rfl | (simp_all [-Int32.not_lt, -Int32.not_le, f_goes, f_to, f_dir, sm_b_e0, sm_b_e1, sm_b_0e, sm_b_1e, sm_V0, g_goes_8, g_goes_9, g_goes_o]))
                · refine sw_iload_n dX0_goesTo_157 rfl ?_
                  refine sw_goto (tgt := 162) dX0_goesTo_158 (by decide) ?_
                  refine sw_iret dX0_goesTo_162 rfl rfl ?_ ?_
                  all_goals (first | with_reducible rfl | (simp_all [-Int32.not_lt, -Int32.not_le, f_goes, f_to, f_dir, sm_b_e0, sm_b_e1, sm_b_0e, sm_b_1e, sm_V0, g_goes_8, g_goes_9, g_goes_o]))
          · refine sw_iconst (v := 3) dX0_goesTo_103 (by decide) ?_
            refine sw_goto (tgt := 108) dX0_goesTo_104 (by decide) ?_
            refine sw_istore_n dX0_goesTo_108 (by decide) rfl ?_
            refine sw_iload_n dX0_goesTo_109 rfl ?_
            refine sw_iload_n dX0_goesTo_110 rfl ?_
            refine sw_icmp_lt (tgt := 127) dX0_goesTo_111 (by decide) (fun h111 => ?_) (fun h111 => ?_)
            · refine sw_aload_n dX0_goesTo_127 rfl ?_
              refine sw_getI dX0_goesTo_128 fl_X0_33 (sm_Fo hk) rfl ?_
              refine sw_getX dX0_goesTo_131 fs_X0_99 ?_
              refine sw_iload_n dX0_goesTo_134 rfl ?_
              refine sw_callS dX0_goesTo_135 lS_X0_72 (c_atX _) rfl rfl (Nat.le_of_ble_eq_true rfl) (Nat.le_of_ble_eq_true rfl) ?_
              refine sw_iadd dX0_goesTo_138 ?_
              refine sw_aload_n dX0_goesTo_139 rfl ?_
              refine sw_getI dX0_goesTo_140 fl_X0_37 (sm_Fo hk) rfl ?_
              refine sw_getY dX0_goesTo_143 fs_X0_105 ?_
              refine sw_iload_n dX0_goesTo_146 rfl ?_
              refine sw_callS dX0_goesTo_147 lS_X0_72 (c_atY _) rfl rfl (Nat.le_of_ble_eq_true rfl) (Nat.le_of_ble_eq_true rfl) ?_
              refine sw_iadd dX0_goesTo_150 ?_
              refine sw_callN dX0_goesTo_151 lN_X0_121 (c_isCell _ _) (fun h => h.2.2.1) rfl rfl (Nat.le_of_ble_eq_true rfl) (Nat.le_of_ble_eq_true rfl) ?_
              refine sw_if_eq (tgt := 161) dX0_goesTo_154 (by decide) (fun h154 => ?_) (fun h154 => ?_)
              · refine sw_iconst (v := 0) dX0_goesTo_161 (by decide) ?_
                refine sw_iret dX0_goesTo_162 rfl rfl ?_ ?_
                all_goals (first | with_reducible rfl | (simp_all [-Int32.not_lt, -Int32.not_le, f_goes, f_to, f_dir, sm_b_e0, sm_b_e1, sm_b_0e, sm_b_1e, sm_V0, g_goes_8, g_goes_9, g_goes_o]))
              · refine sw_iload_n dX0_goesTo_157 rfl ?_
                refine sw_goto (tgt := 162) dX0_goesTo_158 (by decide) ?_
                refine sw_iret dX0_goesTo_162 rfl rfl ?_ ?_
                all_goals (first | with_reducible rfl | (simp_all [-Int32.not_lt, -Int32.not_le, f_goes, f_to, f_dir, sm_b_e0, sm_b_e1, sm_b_0e, sm_b_1e, sm_V0, g_goes_8, g_goes_9, g_goes_o]))
            · refine sw_aload_n dX0_goesTo_114 rfl ?_
              refine sw_getI dX0_goesTo_115 fl_X0_96 (sm_Fo hk) rfl ?_
              refine sw_if_le (tgt := 125) dX0_goesTo_118 (by decide) (fun h118 => ?_) (fun h118 => ?_)
              · refine sw_iconst (v := 4) dX0_goesTo_125 (by decide) ?_
                refine sw_istore_n dX0_goesTo_126 (by decide) rfl ?_
                refine sw_aload_n dX0_goesTo_127 rfl ?_
                refine sw_getI dX0_goesTo_128 fl_X0_33 (sm_Fo hk) rfl ?_
                refine sw_getX dX0_goesTo_131 fs_X0_99 ?_
                refine sw_iload_n dX0_goesTo_134 rfl ?_
                refine sw_callS dX0_goesTo_135 lS_X0_72 (c_atX _) rfl rfl (Nat.le_of_ble_eq_true rfl) (Nat.le_of_ble_eq_true rfl) ?_
                refine sw_iadd dX0_goesTo_138 ?_
                refine sw_aload_n dX0_goesTo_139 rfl ?_
                refine sw_getI dX0_goesTo_140 fl_X0_37 (sm_Fo hk) rfl ?_
                refine sw_getY dX0_goesTo_143 fs_X0_105 ?_
                refine sw_iload_n dX0_goesTo_146 rfl ?_
                refine sw_callS dX0_goesTo_147 lS_X0_72 (c_atY _) rfl rfl (Nat.le_of_ble_eq_true rfl) (Nat.le_of_ble_eq_true rfl) ?_
                refine sw_iadd dX0_goesTo_150 ?_
                refine sw_callN dX0_goesTo_151 lN_X0_121 (c_isCell _ _) (fun h => h.2.2.1) rfl rfl (Nat.le_of_ble_eq_true rfl) (Nat.le_of_ble_eq_true rfl) ?_
                refine sw_if_eq (tgt := 161) dX0_goesTo_154 (by decide) (fun h154 => ?_) (fun h154 => ?_)
                · refine sw_iconst (v := 0) dX0_goesTo_161 (by decide) ?_
                  refine sw_iret dX0_goesTo_162 rfl rfl ?_ ?_
                  all_goals (first | with_reducible rfl | (simp_all [-Int32.not_lt, -Int32.not_le, f_goes, f_to, f_dir, sm_b_e0, sm_b_e1, sm_b_0e, sm_b_1e, sm_V0, g_goes_8, g_goes_9, g_goes_o]))
                · refine sw_iload_n dX0_goesTo_157 rfl ?_
                  refine sw_goto (tgt := 162) dX0_goesTo_158 (by decide) ?_
                  refine sw_iret dX0_goesTo_162 rfl rfl ?_ ?_
                  all_goals (first | with_reducible rfl | (simp_all [-Int32.not_lt, -Int32.not_le, f_goes, f_to, f_dir, sm_b_e0, sm_b_e1, sm_b_0e, sm_b_1e, sm_V0, g_goes_8, g_goes_9, g_goes_o]))
              · refine sw_iconst (v := 2) dX0_goesTo_121 (by decide) ?_
                refine sw_goto (tgt := 126) dX0_goesTo_122 (by decide) ?_
                refine sw_istore_n dX0_goesTo_126 (by decide) rfl ?_
                refine sw_aload_n dX0_goesTo_127 rfl ?_
                refine sw_getI dX0_goesTo_128 fl_X0_33 (sm_Fo hk) rfl ?_
                refine sw_getX dX0_goesTo_131 fs_X0_99 ?_
                refine sw_iload_n dX0_goesTo_134 rfl ?_
                refine sw_callS dX0_goesTo_135 lS_X0_72 (c_atX _) rfl rfl (Nat.le_of_ble_eq_true rfl) (Nat.le_of_ble_eq_true rfl) ?_
                refine sw_iadd dX0_goesTo_138 ?_
                refine sw_aload_n dX0_goesTo_139 rfl ?_
                refine sw_getI dX0_goesTo_140 fl_X0_37 (sm_Fo hk) rfl ?_
                refine sw_getY dX0_goesTo_143 fs_X0_105 ?_
                refine sw_iload_n dX0_goesTo_146 rfl ?_
                refine sw_callS dX0_goesTo_147 lS_X0_72 (c_atY _) rfl rfl (Nat.le_of_ble_eq_true rfl) (Nat.le_of_ble_eq_true rfl) ?_
                refine sw_iadd dX0_goesTo_150 ?_
                refine sw_callN dX0_goesTo_151 lN_X0_121 (c_isCell _ _) (fun h => h.2.2.1) rfl rfl (Nat.le_of_ble_eq_true rfl) (Nat.le_of_ble_eq_true rfl) ?_
                refine sw_if_eq (tgt := 161) dX0_goesTo_154 (by decide) (fun h154 => ?_) (fun h154 => ?_)
                · refine sw_iconst (v := 0) dX0_goesTo_161 (by decide) ?_
                  refine sw_iret dX0_goesTo_162 rfl rfl ?_ ?_
                  all_goals (first | with_reducible rfl | (simp_all [-Int32.not_lt, -Int32.not_le, f_goes, f_to, f_dir, sm_b_e0, sm_b_e1, sm_b_0e, sm_b_1e, sm_V0, g_goes_8, g_goes_9, g_goes_o]))
                · refine sw_iload_n dX0_goesTo_157 rfl ?_
                  refine sw_goto (tgt := 162) dX0_goesTo_158 (by decide) ?_
                  refine sw_iret dX0_goesTo_162 rfl rfl ?_ ?_
                  all_goals (first | with_reducible rfl | (simp_all [-Int32.not_lt, -Int32.not_le, f_goes, f_to, f_dir, sm_b_e0, sm_b_e1, sm_b_0e, sm_b_1e, sm_V0, g_goes_8, g_goes_9, g_goes_o]))
        · refine sw_iconst (v := 0) dX0_goesTo_94 (by decide) ?_
          refine sw_iret dX0_goesTo_95 rfl rfl ?_ ?_
          all_goals (first | with_reducible rfl | (simp_all [-Int32.not_lt, -Int32.not_le, f_goes, f_to, f_dir, sm_b_e0, sm_b_e1, sm_b_0e, sm_b_1e, sm_V0, g_goes_8, g_goes_9, g_goes_o]))
    · have hlt : i < (σ k 7).toNatClampNeg := by rw [sm_set_ne (by decide), sm_set_ne (by decide), sm_le_clamp hib] at h29; omega
      refine sw_aload_n dX0_goesTo_32 rfl ?_
      refine sw_iload_n dX0_goesTo_33 rfl ?_
      refine sw_callV dX0_goesTo_34 lV_X0_112 (c_nearestPost (k := k) hk _) (sm_Fo hk) rfl rfl rfl (Nat.le_of_ble_eq_true rfl) (Nat.le_of_ble_eq_true rfl) ?_
      refine sw_istore_n dX0_goesTo_37 (by decide) rfl ?_
      refine sw_aload_n dX0_goesTo_38 rfl ?_
      refine sw_iload_n dX0_goesTo_39 rfl ?_
      refine sw_iload_n dX0_goesTo_40 rfl ?_
      refine sw_callV dX0_goesTo_41 lV_X0_115 (c_strengthTo (k := k) hk _ _) (sm_Fo hk) rfl rfl rfl (Nat.le_of_ble_eq_true rfl) (Nat.le_of_ble_eq_true rfl) ?_
      refine sw_istore_n dX0_goesTo_44 (by decide) rfl ?_
      refine sw_aload_n dX0_goesTo_45 rfl ?_
      refine sw_aload_n dX0_goesTo_46 rfl ?_
      refine sw_iload_n dX0_goesTo_47 rfl ?_
      refine sw_iload_n dX0_goesTo_48 rfl ?_
      refine sw_callV dX0_goesTo_49 lV_X0_118 (c_headingTo (k := k) hk _ _) (sm_Fo hk) rfl rfl rfl (Nat.le_of_ble_eq_true rfl) (Nat.le_of_ble_eq_true rfl) ?_
      refine sw_iload_n dX0_goesTo_52 rfl ?_
      refine sw_callV dX0_goesTo_53 lV_X0_108 (c_addPull (k := k) hk _ _) (sm_Fo hk) rfl rfl rfl (Nat.le_of_ble_eq_true rfl) (Nat.le_of_ble_eq_true rfl) ?_
      refine sw_iinc dX0_goesTo_56 rfl rfl (by decide) rfl ?_
      refine sw_goto (tgt := 24) dX0_goesTo_59 (by decide) ?_
      refine sw_st (σ2 := (sm_set (sm_set σ k 8 (f_pull (sm_V σ k) (i + 1)).1) k 9 (f_pull (sm_V σ k) (i + 1)).2)) ?_ ?_
      · rw [sm_89]
        simp only [f_head_ag f_ag_89, f_nearest_ag f_ag_89, f_str_ag f_ag_89, sm_set_eq, sm_set_ne (show 8 ≠ 9 by decide)]
        rfl
      refine sw_lv (ih (i + 1) (by omega) (by omega)) (And.intro rfl (And.intro (sm_e rfl ?_) trivial))
      all_goals (rw [sm_i1, nI_succ])

set_option maxHeartbeats 4000000 in
theorem c_goesTo {σ : sm_St} {k : Nat} (hk : sm_isF k) : sm_C yX0_goesTo cX0_goesTo 4 (some .int) 4 [.ref k] σ (some (.int (f_goes (sm_V σ k)))) (g_goes σ k) := by
  refine sm_C.of (own := RX0) (by decide) rfl (Nat.le_of_ble_eq_true rfl) ?_
  show sm_W RX0 cX0_goesTo 4 (some .int) 4 (some (.int (f_goes (sm_V σ k)))) (g_goes σ k) 0 [(0, .ref k)] [] σ
  refine sw_aload_n dX0_goesTo_0 rfl ?_
  refine sw_iconst (v := 0) dX0_goesTo_1 (by decide) ?_
  refine sw_put dX0_goesTo_2 fl_X0_96 fi_0_8 (sm_Fo hk) rfl ?_
  refine sw_aload_n dX0_goesTo_5 rfl ?_
  refine sw_iconst (v := 0) dX0_goesTo_6 (by decide) ?_
  refine sw_put dX0_goesTo_7 fl_X0_102 fi_0_9 (sm_Fo hk) rfl ?_
  refine sw_aload_n dX0_goesTo_10 rfl ?_
  refine sw_aload_n dX0_goesTo_11 rfl ?_
  refine sw_getI dX0_goesTo_12 fl_X0_43 (sm_Fo hk) rfl ?_
  refine sw_aload_n dX0_goesTo_15 rfl ?_
  refine sw_getI dX0_goesTo_16 fl_X0_46 (sm_Fo hk) rfl ?_
  refine sw_callV dX0_goesTo_19 lV_X0_108 (c_addPull (k := k) hk _ _) (sm_Fo hk) rfl rfl rfl (Nat.le_of_ble_eq_true rfl) (Nat.le_of_ble_eq_true rfl) ?_
  refine sw_iconst (v := 0) dX0_goesTo_22 (by decide) ?_
  refine sw_istore_n dX0_goesTo_23 (by decide) rfl ?_
  refine sw_st (σ2 := (sm_set (sm_set σ k 8 (f_pull (sm_V σ k) 0).1) k 9 (f_pull (sm_V σ k) 0).2)) ?_ ?_
  · rw [sm_89]
    simp only [sm_set_eq, sm_set_ne (show 8 ≠ 9 by decide), sm_set_ne (show 3 ≠ 9 by decide), sm_set_ne (show 4 ≠ 9 by decide), sm_set_ne (show 3 ≠ 8 by decide), sm_set_ne (show 4 ≠ 8 by decide)]
    rfl
  refine sw_lv (l_goesTo hk _ 0 (Nat.lt_succ_self _) (Nat.zero_le _)) (And.intro rfl (And.intro (sm_e rfl ?_) trivial))
  all_goals (rfl)

set_option maxHeartbeats 4000000 in
theorem l_goHours {σ : sm_St} {k : Nat} (hk : sm_isF k) (t : Int32) : ∀ n i : Nat, t.toNatClampNeg - i < n → i ≤ t.toNatClampNeg → sm_W RX0 cX0_goHours 5 (some .int) 5 (some (.int ((g_hours σ k t.toNatClampNeg).2))) (g_hours σ k t.toNatClampNeg).1 4 [(0, .ref k), (1, .int t), (2, .int (g_hours σ k i).2), (3, .int (nI i))] [] (g_hours σ k i).1 := by
  intro n
  induction n with
  | zero => intro i h1 h2; omega
  | succ n ih =>
    intro i h1 h2
    have hib : i < 2 ^ 31 := Nat.lt_of_le_of_lt h2 (sm_clamp_lt _)
    refine sw_iload_n dX0_goHours_4 rfl ?_
    refine sw_iload_n dX0_goHours_5 rfl ?_
    refine sw_icmp_ge (tgt := 78) dX0_goHours_6 (by decide) (fun h6 => ?_) (fun h6 => ?_)
    · have hge : t.toNatClampNeg ≤ i := (sm_le_clamp hib).mp h6
      refine sw_iload_n dX0_goHours_78 rfl ?_
      refine sw_iret dX0_goHours_79 rfl rfl ?_ ?_
      all_goals (first | with_reducible rfl | (rw [show i = t.toNatClampNeg by omega]))
    · have hlt : i < t.toNatClampNeg := by rw [sm_le_clamp hib] at h6; omega
      refine sw_aload_n dX0_goHours_9 rfl ?_
      refine sw_callV dX0_goHours_10 lV_X0_125 (c_goesTo (k := k) hk) (sm_Fo hk) rfl rfl rfl (Nat.le_of_ble_eq_true rfl) (Nat.le_of_ble_eq_true rfl) ?_
      refine sw_istore dX0_goHours_13 (by decide) rfl ?_
      refine sw_iload_n dX0_goHours_15 rfl ?_
      refine sw_iload dX0_goHours_16 rfl ?_
      refine sw_if_ne (tgt := 25) dX0_goHours_18 (by decide) (fun h18 => ?_) (fun h18 => ?_)
      · refine sw_iconst (v := 0) dX0_goHours_25 (by decide) ?_
        refine sw_iadd dX0_goHours_26 ?_
        refine sw_istore_n dX0_goHours_27 (by decide) rfl ?_
        refine sw_aload_n dX0_goHours_28 rfl ?_
        refine sw_dup dX0_goHours_29 rfl ?_
        refine sw_getI dX0_goHours_30 fl_X0_33 (sm_Fo hk) rfl ?_
        refine sw_getX dX0_goHours_33 fs_X0_99 ?_
        refine sw_iload dX0_goHours_36 rfl ?_
        refine sw_callS dX0_goHours_38 lS_X0_72 (c_atX _) rfl rfl (Nat.le_of_ble_eq_true rfl) (Nat.le_of_ble_eq_true rfl) ?_
        refine sw_iadd dX0_goHours_41 ?_
        refine sw_put dX0_goHours_42 fl_X0_33 fi_0_0 (sm_Fo hk) rfl ?_
        refine sw_aload_n dX0_goHours_45 rfl ?_
        refine sw_dup dX0_goHours_46 rfl ?_
        refine sw_getI dX0_goHours_47 fl_X0_37 (sm_Fo hk) rfl ?_
        refine sw_getY dX0_goHours_50 fs_X0_105 ?_
        refine sw_iload dX0_goHours_53 rfl ?_
        refine sw_callS dX0_goHours_55 lS_X0_72 (c_atY _) rfl rfl (Nat.le_of_ble_eq_true rfl) (Nat.le_of_ble_eq_true rfl) ?_
        refine sw_iadd dX0_goHours_58 ?_
        refine sw_put dX0_goHours_59 fl_X0_37 fi_0_1 (sm_Fo hk) rfl ?_
        refine sw_aload_n dX0_goHours_62 rfl ?_
        refine sw_dup dX0_goHours_63 rfl ?_
        refine sw_getI dX0_goHours_64 fl_X0_49 (sm_Fo hk) rfl ?_
        refine sw_iconst (v := 1) dX0_goHours_67 (by decide) ?_
        refine sw_iadd dX0_goHours_68 ?_
        refine sw_put dX0_goHours_69 fl_X0_49 fi_0_5 (sm_Fo hk) rfl ?_
        refine sw_iinc dX0_goHours_72 rfl rfl (by decide) rfl ?_
        refine sw_goto (tgt := 4) dX0_goHours_75 (by decide) ?_
        refine sw_st (σ2 := (g_hours σ k (i + 1)).1) ?_ ?_
        · show _ = g_hour (g_hours σ k i).1 k
          unfold g_hour
          simp [g_goes_o, sm_set_ne]
        refine sw_lv (ih (i + 1) (by omega) (by omega)) (And.intro rfl (And.intro rfl (And.intro (sm_e rfl ?_) (And.intro (sm_e rfl ?_) trivial))))
        all_goals (first | (rw [sm_i1, nI_succ]; done) | (show _ = (g_hours σ k i).2 + _; simp only [if_pos, if_neg, not_false_eq_true, *]))
      · refine sw_iconst (v := 1) dX0_goHours_21 (by decide) ?_
        refine sw_goto (tgt := 26) dX0_goHours_22 (by decide) ?_
        refine sw_iadd dX0_goHours_26 ?_
        refine sw_istore_n dX0_goHours_27 (by decide) rfl ?_
        refine sw_aload_n dX0_goHours_28 rfl ?_
        refine sw_dup dX0_goHours_29 rfl ?_
        refine sw_getI dX0_goHours_30 fl_X0_33 (sm_Fo hk) rfl ?_
        refine sw_getX dX0_goHours_33 fs_X0_99 ?_
        refine sw_iload dX0_goHours_36 rfl ?_
        refine sw_callS dX0_goHours_38 lS_X0_72 (c_atX _) rfl rfl (Nat.le_of_ble_eq_true rfl) (Nat.le_of_ble_eq_true rfl) ?_
        refine sw_iadd dX0_goHours_41 ?_
        refine sw_put dX0_goHours_42 fl_X0_33 fi_0_0 (sm_Fo hk) rfl ?_
        refine sw_aload_n dX0_goHours_45 rfl ?_
        refine sw_dup dX0_goHours_46 rfl ?_
        refine sw_getI dX0_goHours_47 fl_X0_37 (sm_Fo hk) rfl ?_
        refine sw_getY dX0_goHours_50 fs_X0_105 ?_
        refine sw_iload dX0_goHours_53 rfl ?_
        refine sw_callS dX0_goHours_55 lS_X0_72 (c_atY _) rfl rfl (Nat.le_of_ble_eq_true rfl) (Nat.le_of_ble_eq_true rfl) ?_
        refine sw_iadd dX0_goHours_58 ?_
        refine sw_put dX0_goHours_59 fl_X0_37 fi_0_1 (sm_Fo hk) rfl ?_
        refine sw_aload_n dX0_goHours_62 rfl ?_
        refine sw_dup dX0_goHours_63 rfl ?_
        refine sw_getI dX0_goHours_64 fl_X0_49 (sm_Fo hk) rfl ?_
        refine sw_iconst (v := 1) dX0_goHours_67 (by decide) ?_
        refine sw_iadd dX0_goHours_68 ?_
        refine sw_put dX0_goHours_69 fl_X0_49 fi_0_5 (sm_Fo hk) rfl ?_
        refine sw_iinc dX0_goHours_72 rfl rfl (by decide) rfl ?_
        refine sw_goto (tgt := 4) dX0_goHours_75 (by decide) ?_
        refine sw_st (σ2 := (g_hours σ k (i + 1)).1) ?_ ?_
        · show _ = g_hour (g_hours σ k i).1 k
          unfold g_hour
          simp [g_goes_o, sm_set_ne]
        refine sw_lv (ih (i + 1) (by omega) (by omega)) (And.intro rfl (And.intro rfl (And.intro (sm_e rfl ?_) (And.intro (sm_e rfl ?_) trivial))))
        all_goals (first | (rw [sm_i1, nI_succ]; done) | (show _ = (g_hours σ k i).2 + _; simp only [if_pos, if_neg, not_false_eq_true, *]))

set_option maxHeartbeats 4000000 in
theorem c_goHours {σ : sm_St} {k : Nat} (hk : sm_isF k) (t : Int32) : sm_C yX0_goHours cX0_goHours 5 (some .int) 5 [.ref k, .int t] σ (some (.int ((g_hours σ k t.toNatClampNeg).2))) (g_hours σ k t.toNatClampNeg).1 := by
  refine sm_C.of (own := RX0) (by decide) rfl (Nat.le_of_ble_eq_true rfl) ?_
  show sm_W RX0 cX0_goHours 5 (some .int) 5 (some (.int ((g_hours σ k t.toNatClampNeg).2))) (g_hours σ k t.toNatClampNeg).1 0 [(0, .ref k), (1, .int t)] [] σ
  refine sw_iconst (v := 0) dX0_goHours_0 (by decide) ?_
  refine sw_istore_n dX0_goHours_1 (by decide) rfl ?_
  refine sw_iconst (v := 0) dX0_goHours_2 (by decide) ?_
  refine sw_istore_n dX0_goHours_3 (by decide) rfl ?_
  refine sw_lv (l_goHours hk t _ 0 (Nat.lt_succ_self _) (Nat.zero_le _)) (And.intro rfl (And.intro rfl (And.intro (sm_e rfl ?_) (And.intro (sm_e rfl ?_) trivial))))
  all_goals (rfl)

def g_clear (σ : sm_St) (k : Nat) : sm_St := sm_set (sm_set (sm_set (sm_set (sm_set (sm_set (sm_set (sm_set σ k 0 4) k 1 4) k 2 2) k 3 0) k 4 0) k 5 0) k 6 0) k 7 0

set_option maxHeartbeats 4000000 in
theorem c_clear {σ : sm_St} {k : Nat} (hk : sm_isF k) : sm_C yX0_clear cX0_clear 1 none 0 [.ref k] σ none (g_clear σ k) := by
  refine sm_C.of (own := RX0) (by decide) rfl (Nat.le_of_ble_eq_true rfl) ?_
  show sm_W RX0 cX0_clear 1 none 0 none (g_clear σ k) 0 [(0, .ref k)] [] σ
  refine sw_aload_n dX0_clear_0 rfl ?_
  refine sw_iconst (v := 4) dX0_clear_1 (by decide) ?_
  refine sw_put dX0_clear_2 fl_X0_33 fi_0_0 (sm_Fo hk) rfl ?_
  refine sw_aload_n dX0_clear_5 rfl ?_
  refine sw_iconst (v := 4) dX0_clear_6 (by decide) ?_
  refine sw_put dX0_clear_7 fl_X0_37 fi_0_1 (sm_Fo hk) rfl ?_
  refine sw_aload_n dX0_clear_10 rfl ?_
  refine sw_iconst (v := 2) dX0_clear_11 (by decide) ?_
  refine sw_put dX0_clear_12 fl_X0_40 fi_0_2 (sm_Fo hk) rfl ?_
  refine sw_aload_n dX0_clear_15 rfl ?_
  refine sw_iconst (v := 0) dX0_clear_16 (by decide) ?_
  refine sw_put dX0_clear_17 fl_X0_43 fi_0_3 (sm_Fo hk) rfl ?_
  refine sw_aload_n dX0_clear_20 rfl ?_
  refine sw_iconst (v := 0) dX0_clear_21 (by decide) ?_
  refine sw_put dX0_clear_22 fl_X0_46 fi_0_4 (sm_Fo hk) rfl ?_
  refine sw_aload_n dX0_clear_25 rfl ?_
  refine sw_iconst (v := 0) dX0_clear_26 (by decide) ?_
  refine sw_put dX0_clear_27 fl_X0_49 fi_0_5 (sm_Fo hk) rfl ?_
  refine sw_aload_n dX0_clear_30 rfl ?_
  refine sw_iconst (v := 0) dX0_clear_31 (by decide) ?_
  refine sw_put dX0_clear_32 fl_X0_52 fi_0_6 (sm_Fo hk) rfl ?_
  refine sw_aload_n dX0_clear_35 rfl ?_
  refine sw_iconst (v := 0) dX0_clear_36 (by decide) ?_
  refine sw_put dX0_clear_37 fl_X0_55 fi_0_7 (sm_Fo hk) rfl ?_
  refine sw_vret dX0_clear_40 rfl rfl ?_
  all_goals (first | with_reducible rfl | (rfl))

/-- all but what was reckoned last: as in j -/
def g_copy (σ : sm_St) (k j : Nat) : sm_St := fun q => if q = k then (fun i => if i < 8 then σ j i else σ k i) else if k < q ∧ q < k + 8 then va_cpy (σ (j + (q - k))) (σ q) 0 0 (if q - k < 5 then 6 else 8) else σ q
theorem sm_row_eq {σ : sm_St} {k : Nat} {f : Nat → Int32} : sm_row σ k f k = f := by simp [sm_row]
theorem sm_row_off {σ : sm_St} {k q : Nat} {f : Nat → Int32} (h : q ≠ k) : sm_row σ k f q = σ q := by simp [sm_row, h]

theorem g_copy_eq {σ : sm_St} {k j : Nat} (hk : sm_isF k) (hj : sm_isF j) (hne : k ≠ j) : (sm_row (sm_row (sm_row (sm_row (sm_row (sm_row (sm_row (sm_set (sm_set (sm_set (sm_set (sm_set (sm_set (sm_set (sm_set σ k 0 (σ j 0)) k 1 (σ j 1)) k 2 (σ j 2)) k 3 (σ j 3)) k 4 (σ j 4)) k 5 (σ j 5)) k 6 (σ j 6)) k 7 (σ j 7)) (k + 1) (va_cpy (σ (j + 1)) (σ (k + 1)) 0 0 6)) (k + 2) (va_cpy (σ (j + 2)) (σ (k + 2)) 0 0 6)) (k + 3) (va_cpy (σ (j + 3)) (σ (k + 3)) 0 0 6)) (k + 4) (va_cpy (σ (j + 4)) (σ (k + 4)) 0 0 6)) (k + 5) (va_cpy (σ (j + 5)) (σ (k + 5)) 0 0 8)) (k + 6) (va_cpy (σ (j + 6)) (σ (k + 6)) 0 0 8)) (k + 7) (va_cpy (σ (j + 7)) (σ (k + 7)) 0 0 8)) = g_copy σ k j := by
  have e1 := hk.2
  have e2 := hj.2
  funext q
  by_cases h0 : q = k
  · subst h0
    have e3 : g_copy σ q j q = (fun i => if i < 8 then σ j i else σ q i) := by unfold g_copy; rw [if_pos rfl]
    rw [e3]
    simp only [sm_row_off (show q ≠ q + 1 by omega), sm_row_off (show q ≠ q + 2 by omega), sm_row_off (show q ≠ q + 3 by omega), sm_row_off (show q ≠ q + 4 by omega), sm_row_off (show q ≠ q + 5 by omega), sm_row_off (show q ≠ q + 6 by omega), sm_row_off (show q ≠ q + 7 by omega)]
    funext i
    by_cases hi : i < 8
    · rw [if_pos hi]
      rcases (show i = 0 ∨ i = 1 ∨ i = 2 ∨ i = 3 ∨ i = 4 ∨ i = 5 ∨ i = 6 ∨ i = 7 by omega) with rfl | rfl | rfl | rfl | rfl | rfl | rfl | rfl <;> simp [sm_set, upd]
    · rw [if_neg hi]
      simp [sm_set, upd, show i ≠ 0 by omega, show i ≠ 1 by omega, show i ≠ 2 by omega, show i ≠ 3 by omega, show i ≠ 4 by omega, show i ≠ 5 by omega, show i ≠ 6 by omega, show i ≠ 7 by omega]
  · by_cases h1 : k < q ∧ q < k + 8
    · rcases (show q = k + 1 ∨ q = k + 2 ∨ q = k + 3 ∨ q = k + 4 ∨ q = k + 5 ∨ q = k + 6 ∨ q = k + 7 by omega) with rfl | rfl | rfl | rfl | rfl | rfl | rfl <;> simp [g_copy, sm_row]
    · have e3 : g_copy σ k j q = σ q := by unfold g_copy; rw [if_neg h0, if_neg h1]
      rw [e3]
      simp [sm_row, sm_set, h0, show q ≠ k + 1 by omega, show q ≠ k + 2 by omega, show q ≠ k + 3 by omega, show q ≠ k + 4 by omega, show q ≠ k + 5 by omega, show q ≠ k + 6 by omega, show q ≠ k + 7 by omega]
theorem g_cpy_row {τ : sm_St} {k j a n : Nat} {f g : Nat → Int32} (h1 : τ (j + a) = f) (h2 : τ (k + a) = g) : sm_row τ (k + a) (va_cpy (τ (j + a)) (τ (k + a)) 0 0 n) = sm_row τ (k + a) (va_cpy f g 0 0 n) := by rw [h1, h2]

set_option maxHeartbeats 4000000 in
theorem c_copyFrom {σ : sm_St} {k j : Nat} (hk : sm_isF k) (hj : sm_isF j) (hne : k ≠ j) : sm_C yX0_copyFrom cX0_copyFrom 2 none 2 [.ref k, .ref j] σ none (g_copy σ k j) := by
  refine sm_C.of (own := RX0) (by decide) rfl (Nat.le_of_ble_eq_true rfl) ?_
  have hq : ∀ a b : Nat, a < 8 → b < 8 → j + a ≠ k + b := by have e1 := hk.2; have e2 := hj.2; intro a b ha hb; omega
  have hq0 : ∀ a : Nat, a < 8 → j + a ≠ k := by have e1 := hk.2; have e2 := hj.2; intro a ha; omega
  show sm_W RX0 cX0_copyFrom 2 none 2 none (g_copy σ k j) 0 [(0, .ref k), (1, .ref j)] [] σ
  refine sw_aload_n dX0_copyFrom_0 rfl ?_
  refine sw_aload_n dX0_copyFrom_1 rfl ?_
  refine sw_getI dX0_copyFrom_2 fl_X0_33 (sm_Fo hj) rfl ?_
  refine sw_top (y := σ j 0) (by simp [sm_set, Ne.symm hne]) ?_
  refine sw_put dX0_copyFrom_5 fl_X0_33 fi_0_0 (sm_Fo hk) rfl ?_
  refine sw_aload_n dX0_copyFrom_8 rfl ?_
  refine sw_aload_n dX0_copyFrom_9 rfl ?_
  refine sw_getI dX0_copyFrom_10 fl_X0_37 (sm_Fo hj) rfl ?_
  refine sw_top (y := σ j 1) (by simp [sm_set, Ne.symm hne]) ?_
  refine sw_put dX0_copyFrom_13 fl_X0_37 fi_0_1 (sm_Fo hk) rfl ?_
  refine sw_aload_n dX0_copyFrom_16 rfl ?_
  refine sw_aload_n dX0_copyFrom_17 rfl ?_
  refine sw_getI dX0_copyFrom_18 fl_X0_40 (sm_Fo hj) rfl ?_
  refine sw_top (y := σ j 2) (by simp [sm_set, Ne.symm hne]) ?_
  refine sw_put dX0_copyFrom_21 fl_X0_40 fi_0_2 (sm_Fo hk) rfl ?_
  refine sw_aload_n dX0_copyFrom_24 rfl ?_
  refine sw_aload_n dX0_copyFrom_25 rfl ?_
  refine sw_getI dX0_copyFrom_26 fl_X0_43 (sm_Fo hj) rfl ?_
  refine sw_top (y := σ j 3) (by simp [sm_set, Ne.symm hne]) ?_
  refine sw_put dX0_copyFrom_29 fl_X0_43 fi_0_3 (sm_Fo hk) rfl ?_
  refine sw_aload_n dX0_copyFrom_32 rfl ?_
  refine sw_aload_n dX0_copyFrom_33 rfl ?_
  refine sw_getI dX0_copyFrom_34 fl_X0_46 (sm_Fo hj) rfl ?_
  refine sw_top (y := σ j 4) (by simp [sm_set, Ne.symm hne]) ?_
  refine sw_put dX0_copyFrom_37 fl_X0_46 fi_0_4 (sm_Fo hk) rfl ?_
  refine sw_aload_n dX0_copyFrom_40 rfl ?_
  refine sw_aload_n dX0_copyFrom_41 rfl ?_
  refine sw_getI dX0_copyFrom_42 fl_X0_49 (sm_Fo hj) rfl ?_
  refine sw_top (y := σ j 5) (by simp [sm_set, Ne.symm hne]) ?_
  refine sw_put dX0_copyFrom_45 fl_X0_49 fi_0_5 (sm_Fo hk) rfl ?_
  refine sw_aload_n dX0_copyFrom_48 rfl ?_
  refine sw_aload_n dX0_copyFrom_49 rfl ?_
  refine sw_getI dX0_copyFrom_50 fl_X0_52 (sm_Fo hj) rfl ?_
  refine sw_top (y := σ j 6) (by simp [sm_set, Ne.symm hne]) ?_
  refine sw_put dX0_copyFrom_53 fl_X0_52 fi_0_6 (sm_Fo hk) rfl ?_
  refine sw_aload_n dX0_copyFrom_56 rfl ?_
  refine sw_aload_n dX0_copyFrom_57 rfl ?_
  refine sw_getI dX0_copyFrom_58 fl_X0_55 (sm_Fo hj) rfl ?_
  refine sw_top (y := σ j 7) (by simp [sm_set, Ne.symm hne]) ?_
  refine sw_put dX0_copyFrom_61 fl_X0_55 fi_0_7 (sm_Fo hk) rfl ?_
  refine sw_aload_n dX0_copyFrom_64 rfl ?_
  refine sw_getR (j := j + 1) dX0_copyFrom_65 fl_X0_9 (sm_Fo hj) rfl ?_
  refine sw_aload_n dX0_copyFrom_68 rfl ?_
  refine sw_getR (j := k + 1) dX0_copyFrom_69 fl_X0_9 (sm_Fo hk) rfl ?_
  refine sw_callS dX0_copyFrom_72 lS_X0_58 (c_copy (a := j + 1) (b := k + 1) (sm_Fa1 hj) (sm_Fa1 hk)) rfl rfl (Nat.le_of_ble_eq_true rfl) (Nat.le_of_ble_eq_true rfl) ?_
  refine sw_st (g_cpy_row (f := σ (j + 1)) (g := σ (k + 1)) (by simp [sm_row, sm_set, hq0 1 (by decide), hq 1 _ (by decide)]) (by simp [sm_row, sm_set])) ?_
  refine sw_aload_n dX0_copyFrom_75 rfl ?_
  refine sw_getR (j := j + 2) dX0_copyFrom_76 fl_X0_15 (sm_Fo hj) rfl ?_
  refine sw_aload_n dX0_copyFrom_79 rfl ?_
  refine sw_getR (j := k + 2) dX0_copyFrom_80 fl_X0_15 (sm_Fo hk) rfl ?_
  refine sw_callS dX0_copyFrom_83 lS_X0_58 (c_copy (a := j + 2) (b := k + 2) (sm_Fa2 hj) (sm_Fa2 hk)) rfl rfl (Nat.le_of_ble_eq_true rfl) (Nat.le_of_ble_eq_true rfl) ?_
  refine sw_st (g_cpy_row (f := σ (j + 2)) (g := σ (k + 2)) (by simp [sm_row, sm_set, hq0 2 (by decide), hq 2 _ (by decide)]) (by simp [sm_row, sm_set])) ?_
  refine sw_aload_n dX0_copyFrom_86 rfl ?_
  refine sw_getR (j := j + 3) dX0_copyFrom_87 fl_X0_18 (sm_Fo hj) rfl ?_
  refine sw_aload_n dX0_copyFrom_90 rfl ?_
  refine sw_getR (j := k + 3) dX0_copyFrom_91 fl_X0_18 (sm_Fo hk) rfl ?_
  refine sw_callS dX0_copyFrom_94 lS_X0_58 (c_copy (a := j + 3) (b := k + 3) (sm_Fa3 hj) (sm_Fa3 hk)) rfl rfl (Nat.le_of_ble_eq_true rfl) (Nat.le_of_ble_eq_true rfl) ?_
  refine sw_st (g_cpy_row (f := σ (j + 3)) (g := σ (k + 3)) (by simp [sm_row, sm_set, hq0 3 (by decide), hq 3 _ (by decide)]) (by simp [sm_row, sm_set])) ?_
  refine sw_aload_n dX0_copyFrom_97 rfl ?_
  refine sw_getR (j := j + 4) dX0_copyFrom_98 fl_X0_21 (sm_Fo hj) rfl ?_
  refine sw_aload_n dX0_copyFrom_101 rfl ?_
  refine sw_getR (j := k + 4) dX0_copyFrom_102 fl_X0_21 (sm_Fo hk) rfl ?_
  refine sw_callS dX0_copyFrom_105 lS_X0_58 (c_copy (a := j + 4) (b := k + 4) (sm_Fa4 hj) (sm_Fa4 hk)) rfl rfl (Nat.le_of_ble_eq_true rfl) (Nat.le_of_ble_eq_true rfl) ?_
  refine sw_st (g_cpy_row (f := σ (j + 4)) (g := σ (k + 4)) (by simp [sm_row, sm_set, hq0 4 (by decide), hq 4 _ (by decide)]) (by simp [sm_row, sm_set])) ?_
  refine sw_aload_n dX0_copyFrom_108 rfl ?_
  refine sw_getR (j := j + 5) dX0_copyFrom_109 fl_X0_24 (sm_Fo hj) rfl ?_
  refine sw_aload_n dX0_copyFrom_112 rfl ?_
  refine sw_getR (j := k + 5) dX0_copyFrom_113 fl_X0_24 (sm_Fo hk) rfl ?_
  refine sw_callS dX0_copyFrom_116 lS_X0_58 (c_copy (a := j + 5) (b := k + 5) (sm_Fa5 hj) (sm_Fa5 hk)) rfl rfl (Nat.le_of_ble_eq_true rfl) (Nat.le_of_ble_eq_true rfl) ?_
  refine sw_st (g_cpy_row (f := σ (j + 5)) (g := σ (k + 5)) (by simp [sm_row, sm_set, hq0 5 (by decide), hq 5 _ (by decide)]) (by simp [sm_row, sm_set])) ?_
  refine sw_aload_n dX0_copyFrom_119 rfl ?_
  refine sw_getR (j := j + 6) dX0_copyFrom_120 fl_X0_27 (sm_Fo hj) rfl ?_
  refine sw_aload_n dX0_copyFrom_123 rfl ?_
  refine sw_getR (j := k + 6) dX0_copyFrom_124 fl_X0_27 (sm_Fo hk) rfl ?_
  refine sw_callS dX0_copyFrom_127 lS_X0_58 (c_copy (a := j + 6) (b := k + 6) (sm_Fa6 hj) (sm_Fa6 hk)) rfl rfl (Nat.le_of_ble_eq_true rfl) (Nat.le_of_ble_eq_true rfl) ?_
  refine sw_st (g_cpy_row (f := σ (j + 6)) (g := σ (k + 6)) (by simp [sm_row, sm_set, hq0 6 (by decide), hq 6 _ (by decide)]) (by simp [sm_row, sm_set])) ?_
  refine sw_aload_n dX0_copyFrom_130 rfl ?_
  refine sw_getR (j := j + 7) dX0_copyFrom_131 fl_X0_30 (sm_Fo hj) rfl ?_
  refine sw_aload_n dX0_copyFrom_134 rfl ?_
  refine sw_getR (j := k + 7) dX0_copyFrom_135 fl_X0_30 (sm_Fo hk) rfl ?_
  refine sw_callS dX0_copyFrom_138 lS_X0_58 (c_copy (a := j + 7) (b := k + 7) (sm_Fa7 hj) (sm_Fa7 hk)) rfl rfl (Nat.le_of_ble_eq_true rfl) (Nat.le_of_ble_eq_true rfl) ?_
  refine sw_st (g_cpy_row (f := σ (j + 7)) (g := σ (k + 7)) (by simp [sm_row, sm_set, hq0 7 (by decide), hq 7 _ (by decide)]) (by simp [sm_row, sm_set])) ?_
  refine sw_vret dX0_copyFrom_141 rfl rfl ?_
  all_goals (first | with_reducible rfl | (exact g_copy_eq hk hj hne))

set_option maxHeartbeats 4000000 in
theorem c_changePost {σ : sm_St} {k : Nat} (hk : sm_isF k) (p x y s : Int32) : sm_C yX0_changePost cX0_changePost 5 none 2 [.ref k, .int p, .int x, .int y, .int s] σ none (r_set (r_set (r_set σ (k + 1) 6 p x) (k + 2) 6 p y) (k + 3) 6 p s) := by
  refine sm_C.of (own := RX0) (by decide) rfl (Nat.le_of_ble_eq_true rfl) ?_
  show sm_W RX0 cX0_changePost 5 none 2 none (r_set (r_set (r_set σ (k + 1) 6 p x) (k + 2) 6 p y) (k + 3) 6 p s) 0 [(0, .ref k), (1, .int p), (2, .int x), (3, .int y), (4, .int s)] [] σ
  refine sw_aload_n dX0_changePost_0 rfl ?_
  refine sw_getR (j := k + 1) dX0_changePost_1 fl_X0_9 (sm_Fo hk) rfl ?_
  refine sw_iload_n dX0_changePost_4 rfl ?_
  refine sw_iload_n dX0_changePost_5 rfl ?_
  refine sw_callS dX0_changePost_6 lS_X0_68 (c_set (k := k + 1) (sm_Fa1 hk) _ _) rfl rfl (Nat.le_of_ble_eq_true rfl) (Nat.le_of_ble_eq_true rfl) ?_
  refine sw_aload_n dX0_changePost_9 rfl ?_
  refine sw_getR (j := k + 2) dX0_changePost_10 fl_X0_15 (sm_Fo hk) rfl ?_
  refine sw_iload_n dX0_changePost_13 rfl ?_
  refine sw_iload_n dX0_changePost_14 rfl ?_
  refine sw_callS dX0_changePost_15 lS_X0_68 (c_set (k := k + 2) (sm_Fa2 hk) _ _) rfl rfl (Nat.le_of_ble_eq_true rfl) (Nat.le_of_ble_eq_true rfl) ?_
  refine sw_aload_n dX0_changePost_18 rfl ?_
  refine sw_getR (j := k + 3) dX0_changePost_19 fl_X0_18 (sm_Fo hk) rfl ?_
  refine sw_iload_n dX0_changePost_22 rfl ?_
  refine sw_iload dX0_changePost_23 rfl ?_
  refine sw_callS dX0_changePost_25 lS_X0_68 (c_set (k := k + 3) (sm_Fa3 hk) _ _) rfl rfl (Nat.le_of_ble_eq_true rfl) (Nat.le_of_ble_eq_true rfl) ?_
  refine sw_vret dX0_changePost_28 rfl rfl ?_
  all_goals (first | with_reducible rfl | (rfl))
end
section
theorem r_set_off {σ : sm_St} {k n q : Nat} {i v : Int32} (h : q ≠ k) : r_set σ k n i v q = σ q := by
  unfold r_set
  split
  · exact sm_set_off h
  · rfl
theorem sm_lt_clamp {x : Int32} {i : Nat} (h1 : 1 ≤ i) (hi : i < 2 ^ 31) : x < nI i ↔ x.toNatClampNeg < i := by
  rw [Int32.lt_iff_toInt_lt, nI_toInt hi]
  show x.toInt < i ↔ x.toInt.toNat < i
  omega
def g_addP (σ : sm_St) (k : Nat) (x y s : Int32) : sm_St := if nI 6 ≤ σ k 6 then σ else sm_set (r_set (r_set (r_set (r_set σ (k + 1) 6 (σ k 6) x) (k + 2) 6 (σ k 6) y) (k + 3) 6 (σ k 6) s) (k + 4) 6 (σ k 6) 0) k 6 (σ k 6 + 1)
def g_addS (σ : sm_St) (k : Nat) (a s n : Int32) : sm_St := if nI 8 ≤ σ k 7 then σ else sm_set (r_set (r_set (r_set σ (k + 5) 8 (σ k 7) a) (k + 6) 8 (σ k 7) s) (k + 7) 8 (σ k 7) n) k 7 (σ k 7 + 1)

set_option maxHeartbeats 4000000 in
theorem c_addPost {σ : sm_St} {k : Nat} (hk : sm_isF k) (x y s : Int32) : sm_C yX0_addPost cX0_addPost 4 none 3 [.ref k, .int x, .int y, .int s] σ none (g_addP σ k x y s) := by
  refine sm_C.of (own := RX0) (by decide) rfl (Nat.le_of_ble_eq_true rfl) ?_
  show sm_W RX0 cX0_addPost 4 none 3 none (g_addP σ k x y s) 0 [(0, .ref k), (1, .int x), (2, .int y), (3, .int s)] [] σ
  refine sw_aload_n dX0_addPost_0 rfl ?_
  refine sw_getI dX0_addPost_1 fl_X0_52 (sm_Fo hk) rfl ?_
  refine sw_aload_n dX0_addPost_4 rfl ?_
  refine sw_getR (j := k + 1) dX0_addPost_5 fl_X0_9 (sm_Fo hk) rfl ?_
  refine sw_alen dX0_addPost_8 (sm_Fa1 hk) ?_
  refine sw_icmp_ge (tgt := 45) dX0_addPost_9 (by decide) (fun h9 => ?_) (fun h9 => ?_)
  · refine sw_vret dX0_addPost_45 rfl rfl ?_
    all_goals (first | with_reducible rfl | (first | (rw [g_addP, if_pos h9]) | (rw [g_addP, if_neg h9]; simp [r_set_off])))
  · refine sw_aload_n dX0_addPost_12 rfl ?_
    refine sw_aload_n dX0_addPost_13 rfl ?_
    refine sw_getI dX0_addPost_14 fl_X0_52 (sm_Fo hk) rfl ?_
    refine sw_iload_n dX0_addPost_17 rfl ?_
    refine sw_iload_n dX0_addPost_18 rfl ?_
    refine sw_iload_n dX0_addPost_19 rfl ?_
    refine sw_callV dX0_addPost_20 lV_X0_64 (c_changePost (k := k) hk _ _ _ _) (sm_Fo hk) rfl rfl rfl (Nat.le_of_ble_eq_true rfl) (Nat.le_of_ble_eq_true rfl) ?_
    refine sw_aload_n dX0_addPost_23 rfl ?_
    refine sw_getR (j := k + 4) dX0_addPost_24 fl_X0_21 (sm_Fo hk) rfl ?_
    refine sw_aload_n dX0_addPost_27 rfl ?_
    refine sw_getI dX0_addPost_28 fl_X0_52 (sm_Fo hk) rfl ?_
    refine sw_top (y := σ k 6) (by simp [r_set_off]) ?_
    refine sw_iconst (v := 0) dX0_addPost_31 (by decide) ?_
    refine sw_callS dX0_addPost_32 lS_X0_68 (c_set (k := k + 4) (sm_Fa4 hk) _ _) rfl rfl (Nat.le_of_ble_eq_true rfl) (Nat.le_of_ble_eq_true rfl) ?_
    refine sw_aload_n dX0_addPost_35 rfl ?_
    refine sw_dup dX0_addPost_36 rfl ?_
    refine sw_getI dX0_addPost_37 fl_X0_52 (sm_Fo hk) rfl ?_
    refine sw_iconst (v := 1) dX0_addPost_40 (by decide) ?_
    refine sw_iadd dX0_addPost_41 ?_
    refine sw_put dX0_addPost_42 fl_X0_52 fi_0_6 (sm_Fo hk) rfl ?_
    refine sw_vret dX0_addPost_45 rfl rfl ?_
    all_goals (first | with_reducible rfl | (first | (rw [g_addP, if_pos h9]) | (rw [g_addP, if_neg h9]; simp [r_set_off])))

set_option maxHeartbeats 4000000 in
theorem c_addSailor {σ : sm_St} {k : Nat} (hk : sm_isF k) (a s n : Int32) : sm_C yX0_addSailor cX0_addSailor 4 none 3 [.ref k, .int a, .int s, .int n] σ none (g_addS σ k a s n) := by
  refine sm_C.of (own := RX0) (by decide) rfl (Nat.le_of_ble_eq_true rfl) ?_
  show sm_W RX0 cX0_addSailor 4 none 3 none (g_addS σ k a s n) 0 [(0, .ref k), (1, .int a), (2, .int s), (3, .int n)] [] σ
  refine sw_aload_n dX0_addSailor_0 rfl ?_
  refine sw_getI dX0_addSailor_1 fl_X0_55 (sm_Fo hk) rfl ?_
  refine sw_aload_n dX0_addSailor_4 rfl ?_
  refine sw_getR (j := k + 5) dX0_addSailor_5 fl_X0_24 (sm_Fo hk) rfl ?_
  refine sw_alen dX0_addSailor_8 (sm_Fa5 hk) ?_
  refine sw_icmp_ge (tgt := 58) dX0_addSailor_9 (by decide) (fun h9 => ?_) (fun h9 => ?_)
  · refine sw_vret dX0_addSailor_58 rfl rfl ?_
    all_goals (first | with_reducible rfl | (first | (rw [g_addS, if_pos h9]) | (rw [g_addS, if_neg h9]; simp [r_set_off])))
  · refine sw_aload_n dX0_addSailor_12 rfl ?_
    refine sw_getR (j := k + 5) dX0_addSailor_13 fl_X0_24 (sm_Fo hk) rfl ?_
    refine sw_aload_n dX0_addSailor_16 rfl ?_
    refine sw_getI dX0_addSailor_17 fl_X0_55 (sm_Fo hk) rfl ?_
    refine sw_iload_n dX0_addSailor_20 rfl ?_
    refine sw_callS dX0_addSailor_21 lS_X0_68 (c_set (k := k + 5) (sm_Fa5 hk) _ _) rfl rfl (Nat.le_of_ble_eq_true rfl) (Nat.le_of_ble_eq_true rfl) ?_
    refine sw_aload_n dX0_addSailor_24 rfl ?_
    refine sw_getR (j := k + 6) dX0_addSailor_25 fl_X0_27 (sm_Fo hk) rfl ?_
    refine sw_aload_n dX0_addSailor_28 rfl ?_
    refine sw_getI dX0_addSailor_29 fl_X0_55 (sm_Fo hk) rfl ?_
    refine sw_iload_n dX0_addSailor_32 rfl ?_
    refine sw_callS dX0_addSailor_33 lS_X0_68 (c_set (k := k + 6) (sm_Fa6 hk) _ _) rfl rfl (Nat.le_of_ble_eq_true rfl) (Nat.le_of_ble_eq_true rfl) ?_
    refine sw_aload_n dX0_addSailor_36 rfl ?_
    refine sw_getR (j := k + 7) dX0_addSailor_37 fl_X0_30 (sm_Fo hk) rfl ?_
    refine sw_aload_n dX0_addSailor_40 rfl ?_
    refine sw_getI dX0_addSailor_41 fl_X0_55 (sm_Fo hk) rfl ?_
    refine sw_iload_n dX0_addSailor_44 rfl ?_
    refine sw_callS dX0_addSailor_45 lS_X0_68 (c_set (k := k + 7) (sm_Fa7 hk) _ _) rfl rfl (Nat.le_of_ble_eq_true rfl) (Nat.le_of_ble_eq_true rfl) ?_
    refine sw_aload_n dX0_addSailor_48 rfl ?_
    refine sw_dup dX0_addSailor_49 rfl ?_
    refine sw_getI dX0_addSailor_50 fl_X0_55 (sm_Fo hk) rfl ?_
    refine sw_iconst (v := 1) dX0_addSailor_53 (by decide) ?_
    refine sw_iadd dX0_addSailor_54 ?_
    refine sw_put dX0_addSailor_55 fl_X0_55 fi_0_7 (sm_Fo hk) rfl ?_
    refine sw_vret dX0_addSailor_58 rfl rfl ?_
    all_goals (first | with_reducible rfl | (first | (rw [g_addS, if_pos h9]) | (rw [g_addS, if_neg h9]; simp [r_set_off])))

def f_stand (V : Nat → Nat → Int32) : Nat → Int32
  | 0 => 0
  | p + 1 => if r_at (V 4) 6 (nI p) = 0 then f_stand V p ||| (1 <<< (nI p &&& 31)) else f_stand V p

set_option maxHeartbeats 4000000 in
theorem l_standing {σ : sm_St} {k : Nat} (hk : sm_isF k) : ∀ n i : Nat, (σ k 6).toNatClampNeg - i < n → i ≤ (σ k 6).toNatClampNeg → sm_W RX0 cX0_standingPosts 3 (some .int) 3 (some (.int (f_stand (sm_V σ k) (σ k 6).toNatClampNeg))) σ 4 [(0, .ref k), (1, .int (f_stand (sm_V σ k) i)), (2, .int (nI i))] [] σ := by
  intro n
  induction n with
  | zero => intro i h1 h2; omega
  | succ n ih =>
    intro i h1 h2
    have hib : i < 2 ^ 31 := Nat.lt_of_le_of_lt h2 (sm_clamp_lt _)
    refine sw_iload_n dX0_standingPosts_4 rfl ?_
    refine sw_aload_n dX0_standingPosts_5 rfl ?_
    refine sw_getI dX0_standingPosts_6 fl_X0_52 (sm_Fo hk) rfl ?_
    refine sw_icmp_ge (tgt := 35) dX0_standingPosts_9 (by decide) (fun h9 => ?_) (fun h9 => ?_)
    · have hge : (σ k 6).toNatClampNeg ≤ i := (sm_le_clamp hib).mp h9
      refine sw_iload_n dX0_standingPosts_35 rfl ?_
      refine sw_iret dX0_standingPosts_36 rfl rfl ?_ ?_
      all_goals (first | with_reducible rfl | (rw [show i = (σ k 6).toNatClampNeg by omega]))
    · have hlt : i < (σ k 6).toNatClampNeg := by rw [sm_le_clamp hib] at h9; omega
      refine sw_aload_n dX0_standingPosts_12 rfl ?_
      refine sw_getR (j := k + 4) dX0_standingPosts_13 fl_X0_21 (sm_Fo hk) rfl ?_
      refine sw_iload_n dX0_standingPosts_16 rfl ?_
      refine sw_callS dX0_standingPosts_17 lS_X0_72 (c_at (sm_Fa4 hk) _) rfl rfl (Nat.le_of_ble_eq_true rfl) (Nat.le_of_ble_eq_true rfl) ?_
      refine sw_if_ne (tgt := 29) dX0_standingPosts_20 (by decide) (fun h20 => ?_) (fun h20 => ?_)
      · refine sw_iinc dX0_standingPosts_29 rfl rfl (by decide) rfl ?_
        refine sw_goto (tgt := 4) dX0_standingPosts_32 (by decide) ?_
        refine sw_lv (ih (i + 1) (by omega) (by omega)) (And.intro rfl (And.intro (sm_e rfl ?_) (And.intro (sm_e rfl ?_) trivial)))
        all_goals (first | (rw [sm_i1, nI_succ]; done) | (show _ = (if r_at (σ (k + 4)) 6 (nI i) = 0 then _ else _); first | rw [if_pos h20] | rw [if_neg h20]))
      · refine sw_iload_n dX0_standingPosts_23 rfl ?_
        refine sw_iconst (v := 1) dX0_standingPosts_24 (by decide) ?_
        refine sw_iload_n dX0_standingPosts_25 rfl ?_
        refine sw_ishl dX0_standingPosts_26 ?_
        refine sw_ior dX0_standingPosts_27 ?_
        refine sw_istore_n dX0_standingPosts_28 (by decide) rfl ?_
        refine sw_iinc dX0_standingPosts_29 rfl rfl (by decide) rfl ?_
        refine sw_goto (tgt := 4) dX0_standingPosts_32 (by decide) ?_
        refine sw_lv (ih (i + 1) (by omega) (by omega)) (And.intro rfl (And.intro (sm_e rfl ?_) (And.intro (sm_e rfl ?_) trivial)))
        all_goals (first | (rw [sm_i1, nI_succ]; done) | (show _ = (if r_at (σ (k + 4)) 6 (nI i) = 0 then _ else _); first | rw [if_pos h20] | rw [if_neg h20]))

set_option maxHeartbeats 4000000 in
theorem c_standingPosts {σ : sm_St} {k : Nat} (hk : sm_isF k) : sm_C yX0_standingPosts cX0_standingPosts 3 (some .int) 3 [.ref k] σ (some (.int (f_stand (sm_V σ k) (σ k 6).toNatClampNeg))) σ := by
  refine sm_C.of (own := RX0) (by decide) rfl (Nat.le_of_ble_eq_true rfl) ?_
  show sm_W RX0 cX0_standingPosts 3 (some .int) 3 (some (.int (f_stand (sm_V σ k) (σ k 6).toNatClampNeg))) σ 0 [(0, .ref k)] [] σ
  refine sw_iconst (v := 0) dX0_standingPosts_0 (by decide) ?_
  refine sw_istore_n dX0_standingPosts_1 (by decide) rfl ?_
  refine sw_iconst (v := 0) dX0_standingPosts_2 (by decide) ?_
  refine sw_istore_n dX0_standingPosts_3 (by decide) rfl ?_
  refine sw_lv (l_standing hk _ 0 (Nat.lt_succ_self _) (Nat.zero_le _)) (And.intro rfl (And.intro (sm_e rfl ?_) (And.intro (sm_e rfl ?_) trivial)))
  all_goals (rfl)

def u_sh (x s : Int32) : Int32 := (x.toUInt32 >>> (s.toUInt32 &&& Int32.toUInt32 31)).toInt32
def f_bc1 (x : Int32) : Int32 := x - (u_sh x 1 &&& 1431655765)
def f_bc2 (x : Int32) : Int32 := (x &&& 858993459) + (u_sh x 2 &&& 858993459)
def f_bc3 (x : Int32) : Int32 := (x + u_sh x 4) &&& 252645135
def f_bc4 (x : Int32) : Int32 := x + u_sh x 8
def f_bc5 (x : Int32) : Int32 := x + u_sh x 16
def f_bc (x : Int32) : Int32 := f_bc5 (f_bc4 (f_bc3 (f_bc2 (f_bc1 x)))) &&& 63

set_option maxHeartbeats 4000000 in
theorem c_bitCount {σ : sm_St} (x : Int32) : sm_C yJ6_bitCount_0f7a4 cJ6_bitCount_0f7a4 1 (some .int) 0 [.int x] σ (some (.int (f_bc x))) σ := by
  refine sm_C.of (own := RJ6) (by decide) rfl (Nat.le_of_ble_eq_true rfl) ?_
  show sm_W RJ6 cJ6_bitCount_0f7a4 1 (some .int) 0 (some (.int (f_bc x))) σ 0 [(0, .int x)] [] σ
  refine sw_iload_n dJ6_bitCount_0f7a4_0 rfl ?_
  refine sw_iload_n dJ6_bitCount_0f7a4_1 rfl ?_
  refine sw_iconst (v := 1) dJ6_bitCount_0f7a4_2 (by decide) ?_
  refine sw_iushr dJ6_bitCount_0f7a4_3 ?_
  refine sw_ldcw dJ6_bitCount_0f7a4_4 kc_J6_265 ?_
  refine sw_iand dJ6_bitCount_0f7a4_7 ?_
  refine sw_isub dJ6_bitCount_0f7a4_8 ?_
  refine sw_top (y := f_bc1 x) rfl ?_
  refine sw_istore_n dJ6_bitCount_0f7a4_9 (by decide) rfl ?_
  refine sw_iload_n dJ6_bitCount_0f7a4_10 rfl ?_
  refine sw_ldcw dJ6_bitCount_0f7a4_11 kc_J6_266 ?_
  refine sw_iand dJ6_bitCount_0f7a4_14 ?_
  refine sw_iload_n dJ6_bitCount_0f7a4_15 rfl ?_
  refine sw_iconst (v := 2) dJ6_bitCount_0f7a4_16 (by decide) ?_
  refine sw_iushr dJ6_bitCount_0f7a4_17 ?_
  refine sw_ldcw dJ6_bitCount_0f7a4_18 kc_J6_266 ?_
  refine sw_iand dJ6_bitCount_0f7a4_21 ?_
  refine sw_iadd dJ6_bitCount_0f7a4_22 ?_
  refine sw_top (y := f_bc2 (f_bc1 x)) rfl ?_
  refine sw_istore_n dJ6_bitCount_0f7a4_23 (by decide) rfl ?_
  refine sw_iload_n dJ6_bitCount_0f7a4_24 rfl ?_
  refine sw_iload_n dJ6_bitCount_0f7a4_25 rfl ?_
  refine sw_iconst (v := 4) dJ6_bitCount_0f7a4_26 (by decide) ?_
  refine sw_iushr dJ6_bitCount_0f7a4_27 ?_
  refine sw_iadd dJ6_bitCount_0f7a4_28 ?_
  refine sw_ldcw dJ6_bitCount_0f7a4_29 kc_J6_267 ?_
  refine sw_iand dJ6_bitCount_0f7a4_32 ?_
  refine sw_top (y := f_bc3 (f_bc2 (f_bc1 x))) rfl ?_
  refine sw_istore_n dJ6_bitCount_0f7a4_33 (by decide) rfl ?_
  refine sw_iload_n dJ6_bitCount_0f7a4_34 rfl ?_
  refine sw_iload_n dJ6_bitCount_0f7a4_35 rfl ?_
  refine sw_bipush (v := 8) dJ6_bitCount_0f7a4_36 (by decide) ?_
  refine sw_iushr dJ6_bitCount_0f7a4_38 ?_
  refine sw_iadd dJ6_bitCount_0f7a4_39 ?_
  refine sw_top (y := f_bc4 (f_bc3 (f_bc2 (f_bc1 x)))) rfl ?_
  refine sw_istore_n dJ6_bitCount_0f7a4_40 (by decide) rfl ?_
  refine sw_iload_n dJ6_bitCount_0f7a4_41 rfl ?_
  refine sw_iload_n dJ6_bitCount_0f7a4_42 rfl ?_
  refine sw_bipush (v := 16) dJ6_bitCount_0f7a4_43 (by decide) ?_
  refine sw_iushr dJ6_bitCount_0f7a4_45 ?_
  refine sw_iadd dJ6_bitCount_0f7a4_46 ?_
  refine sw_top (y := f_bc5 (f_bc4 (f_bc3 (f_bc2 (f_bc1 x))))) rfl ?_
  refine sw_istore_n dJ6_bitCount_0f7a4_47 (by decide) rfl ?_
  refine sw_iload_n dJ6_bitCount_0f7a4_48 rfl ?_
  refine sw_bipush (v := 63) dJ6_bitCount_0f7a4_49 (by decide) ?_
  refine sw_iand dJ6_bitCount_0f7a4_51 ?_
  refine sw_iret dJ6_bitCount_0f7a4_52 rfl rfl ?_ ?_
  all_goals (first | with_reducible rfl | (rfl))

/-- n hours more, from the hour h on, until it is at x, y; 0 if it isn't in them or goes round -/
def g_hT (k : Nat) (x y : Int32) : Nat → Int32 → Int32 → Int32 → sm_St → Int32 × sm_St
  | 0, _, _, _, σ => (0, σ)
  | n + 1, h, mx, my, σ => if f_isAt (sm_V (g_hour σ k) k) x y = true then (h, g_hour σ k) else if f_isAt (sm_V (g_hour σ k) k) mx my = true then (0, g_hour σ k) else
      if f_bc h = 1 then g_hT k x y n (h + 1) (g_hour σ k k 0) (g_hour σ k k 1) (g_hour σ k) else g_hT k x y n (h + 1) mx my (g_hour σ k)

set_option maxHeartbeats 4000000 in
theorem l_hoursTo {k : Nat} (hk : sm_isF k) {x y m : Int32} (hm : m.toNatClampNeg < 1000) : ∀ (n i : Nat) (mx my : Int32) (τ : sm_St), 1 ≤ i → i + n = m.toNatClampNeg + 1 → sm_W RX0 cX0_hoursTo 7 (some .int) 6 (some (.int (g_hT k x y n (nI i) mx my τ).1)) (g_hT k x y n (nI i) mx my τ).2 15 [(0, .ref k), (1, .int x), (2, .int y), (3, .int m), (4, .int mx), (5, .int my), (6, .int (nI i))] [] τ := by
  intro n
  induction n with
  | zero =>
    intro i mx my τ h1 h2
    refine sw_iload dX0_hoursTo_15 rfl ?_
    refine sw_iload_n dX0_hoursTo_17 rfl ?_
    refine sw_icmp_gt (tgt := 79) dX0_hoursTo_18 (by decide) (fun _ => ?_) (fun h => absurd ((sm_lt_clamp h1 (by omega)).mpr (by omega)) h)
    refine sw_iconst (v := 0) dX0_hoursTo_79 (by decide) ?_
    refine sw_iret dX0_hoursTo_80 rfl rfl ?_ ?_
    all_goals (first | with_reducible rfl | (rfl))
  | succ n ih =>
    intro i mx my τ h1 h2
    refine sw_iload dX0_hoursTo_15 rfl ?_
    refine sw_iload_n dX0_hoursTo_17 rfl ?_
    refine sw_icmp_gt (tgt := 79) dX0_hoursTo_18 (by decide) (fun h => absurd h ((fun h => absurd ((sm_lt_clamp h1 (by omega)).mp h) (by omega)))) (fun _ => ?_)
    refine sw_aload_n dX0_hoursTo_21 rfl ?_
    refine sw_iconst (v := 1) dX0_hoursTo_22 (by decide) ?_
    refine sw_callV dX0_hoursTo_23 lV_X0_129 (c_goHours (k := k) hk _) (sm_Fo hk) rfl rfl rfl (Nat.le_of_ble_eq_true rfl) (Nat.le_of_ble_eq_true rfl) ?_
    refine sw_st (σ2 := g_hour τ k) rfl ?_
    refine sw_pop dX0_hoursTo_26 rfl ?_
    refine sw_aload_n dX0_hoursTo_27 rfl ?_
    refine sw_iload_n dX0_hoursTo_28 rfl ?_
    refine sw_iload_n dX0_hoursTo_29 rfl ?_
    refine sw_callV dX0_hoursTo_30 lV_X0_132 (c_isShipAt (k := k) hk _ _) (sm_Fo hk) rfl rfl rfl (Nat.le_of_ble_eq_true rfl) (Nat.le_of_ble_eq_true rfl) ?_
    refine sw_if_eq (tgt := 39) dX0_hoursTo_33 (by decide) (fun h33 => ?_) (fun h33 => ?_)
    · refine sw_aload_n dX0_hoursTo_39 rfl ?_
      refine sw_iload dX0_hoursTo_40 rfl ?_
      refine sw_iload dX0_hoursTo_42 rfl ?_
      refine sw_callV dX0_hoursTo_44 lV_X0_132 (c_isShipAt (k := k) hk _ _) (sm_Fo hk) rfl rfl rfl (Nat.le_of_ble_eq_true rfl) (Nat.le_of_ble_eq_true rfl) ?_
      refine sw_if_eq (tgt := 52) dX0_hoursTo_47 (by decide) (fun h47 => ?_) (fun h47 => ?_)
      · refine sw_iload dX0_hoursTo_52 rfl ?_
        refine sw_callS dX0_hoursTo_54 lS_X0_135 (c_bitCount _) rfl rfl (Nat.le_of_ble_eq_true rfl) (Nat.le_of_ble_eq_true rfl) ?_
        refine sw_iconst (v := 1) dX0_hoursTo_57 (by decide) ?_
        refine sw_icmp_ne (tgt := 73) dX0_hoursTo_58 (by decide) (fun h58 => ?_) (fun h58 => ?_)
        · refine sw_iinc dX0_hoursTo_73 rfl rfl (by decide) rfl ?_
          refine sw_goto (tgt := 15) dX0_hoursTo_76 (by decide) ?_
          have e : g_hT k x y (n + 1) (nI i) mx my τ = g_hT k x y n (nI (i + 1)) mx my (g_hour τ k) := by
            rw [g_hT, if_neg (by simpa [sm_b_e0] using h33), if_neg (by simpa [sm_b_e0] using h47), if_neg h58, nI_succ]
          rw [e]
          refine sw_lv (ih (i + 1) _ _ _ (by omega) (by omega)) (And.intro rfl (And.intro rfl (And.intro rfl (And.intro rfl (And.intro rfl (And.intro rfl (And.intro (sm_e rfl ?_) trivial)))))))
          all_goals (rw [sm_i1, nI_succ])
        · refine sw_aload_n dX0_hoursTo_61 rfl ?_
          refine sw_getI dX0_hoursTo_62 fl_X0_33 (sm_Fo hk) rfl ?_
          refine sw_istore dX0_hoursTo_65 (by decide) rfl ?_
          refine sw_aload_n dX0_hoursTo_67 rfl ?_
          refine sw_getI dX0_hoursTo_68 fl_X0_37 (sm_Fo hk) rfl ?_
          refine sw_istore dX0_hoursTo_71 (by decide) rfl ?_
          refine sw_iinc dX0_hoursTo_73 rfl rfl (by decide) rfl ?_
          refine sw_goto (tgt := 15) dX0_hoursTo_76 (by decide) ?_
          have e : g_hT k x y (n + 1) (nI i) mx my τ = g_hT k x y n (nI (i + 1)) (g_hour τ k k 0) (g_hour τ k k 1) (g_hour τ k) := by
            rw [g_hT, if_neg (by simpa [sm_b_e0] using h33), if_neg (by simpa [sm_b_e0] using h47), if_pos h58, nI_succ]
          rw [e]
          refine sw_lv (ih (i + 1) _ _ _ (by omega) (by omega)) (And.intro rfl (And.intro rfl (And.intro rfl (And.intro rfl (And.intro rfl (And.intro rfl (And.intro (sm_e rfl ?_) trivial)))))))
          all_goals (rw [sm_i1, nI_succ])
      · refine sw_iconst (v := 0) dX0_hoursTo_50 (by decide) ?_
        refine sw_iret dX0_hoursTo_51 rfl rfl ?_ ?_
        all_goals (first | with_reducible rfl | (rw [g_hT]; simp_all [sm_b_e0]))
    · refine sw_iload dX0_hoursTo_36 rfl ?_
      refine sw_iret dX0_hoursTo_38 rfl rfl ?_ ?_
      all_goals (first | with_reducible rfl | (rw [g_hT]; simp_all [sm_b_e0]))

set_option maxHeartbeats 4000000 in
theorem c_hoursTo {σ : sm_St} {k : Nat} (hk : sm_isF k) (x y m : Int32) (hm : m.toNatClampNeg < 1000) : sm_C yX0_hoursTo cX0_hoursTo 7 (some .int) 6 [.ref k, .int x, .int y, .int m] σ (some (.int (g_hT k x y m.toNatClampNeg 1 (σ k 0) (σ k 1) σ).1)) (g_hT k x y m.toNatClampNeg 1 (σ k 0) (σ k 1) σ).2 := by
  refine sm_C.of (own := RX0) (by decide) rfl (Nat.le_of_ble_eq_true rfl) ?_
  show sm_W RX0 cX0_hoursTo 7 (some .int) 6 (some (.int (g_hT k x y m.toNatClampNeg 1 (σ k 0) (σ k 1) σ).1)) (g_hT k x y m.toNatClampNeg 1 (σ k 0) (σ k 1) σ).2 0 [(0, .ref k), (1, .int x), (2, .int y), (3, .int m)] [] σ
  refine sw_aload_n dX0_hoursTo_0 rfl ?_
  refine sw_getI dX0_hoursTo_1 fl_X0_33 (sm_Fo hk) rfl ?_
  refine sw_istore dX0_hoursTo_4 (by decide) rfl ?_
  refine sw_aload_n dX0_hoursTo_6 rfl ?_
  refine sw_getI dX0_hoursTo_7 fl_X0_37 (sm_Fo hk) rfl ?_
  refine sw_istore dX0_hoursTo_10 (by decide) rfl ?_
  refine sw_iconst (v := 1) dX0_hoursTo_12 (by decide) ?_
  refine sw_istore dX0_hoursTo_13 (by decide) rfl ?_
  refine sw_lv (l_hoursTo hk hm _ 1 _ _ _ (Nat.le_refl _) (Nat.add_comm 1 _)) (And.intro rfl (And.intro rfl (And.intro rfl (And.intro rfl (And.intro rfl (And.intro rfl (And.intro rfl trivial)))))))

def f_fill (f : Nat → Int32) (v : Int32) (n : Nat) : Nat → Int32 := fun i => if i < n then v else f i
theorem f_fill_s (f : Nat → Int32) (v : Int32) (n : Nat) : upd (f_fill f v n) n v = f_fill f v (n + 1) := by
  funext i
  unfold upd f_fill
  by_cases h : i = n
  · subst h; simp
  · by_cases h2 : i < n
    · rw [if_neg h, if_pos h2, if_pos (by omega)]
    · rw [if_neg h, if_neg h2, if_neg (by omega)]
theorem f_fill_0 (f : Nat → Int32) (v : Int32) : f_fill f v 0 = f := by funext i; simp [f_fill]
theorem sm_row_id (σ : sm_St) (k : Nat) : sm_row σ k (σ k) = σ := by
  funext j
  unfold sm_row
  split
  · rename_i h; rw [h]
  · rfl

set_option maxHeartbeats 4000000 in
theorem l_fill {σ : sm_St} {k N : Nat} (ha : sm_aln k = some N) (v : Int32) : ∀ n i : Nat, N - i < n → i ≤ N → sm_W RJ7 cJ7_fill_53178 4 none 0 none (sm_row σ k (f_fill (σ k) v N)) 5 [(0, .ref k), (1, .int v), (2, .int (nI i)), (3, .int (nI N))] [] (sm_row σ k (f_fill (σ k) v i)) := by
  have hN := (sm_aln_lt ha).2.2.2
  intro n
  induction n with
  | zero => intro i h1 h2; omega
  | succ n ih =>
    intro i h1 h2
    have hib : i < 2 ^ 31 := by omega
    refine sw_iload_n dJ7_fill_53178_5 rfl ?_
    refine sw_iload_n dJ7_fill_53178_6 rfl ?_
    refine sw_icmp_ge (tgt := 20) dJ7_fill_53178_7 (by decide) (fun h7 => ?_) (fun h7 => ?_)
    · have hge : N ≤ i := (nI_leI (by omega) hib).mp h7
      refine sw_vret dJ7_fill_53178_20 rfl rfl ?_
      all_goals (first | with_reducible rfl | (rw [show i = N by omega]))
    · have hlt : i < N := by rw [nI_leI (by omega) hib] at h7; omega
      refine sw_aload_n dJ7_fill_53178_10 rfl ?_
      refine sw_iload_n dJ7_fill_53178_11 rfl ?_
      refine sw_iload_n dJ7_fill_53178_12 rfl ?_
      refine sw_iast dJ7_fill_53178_13 ha (vp_in_nI hlt (by omega)) ?_
      refine sw_iinc dJ7_fill_53178_14 rfl rfl (by decide) rfl ?_
      refine sw_goto (tgt := 5) dJ7_fill_53178_17 (by decide) ?_
      refine sw_st (σ2 := sm_row σ k (f_fill (σ k) v (i + 1))) ?_ ?_
      · rw [← f_fill_s, nI_clamp hib]
        funext q
        by_cases hq : q = k <;> simp [sm_set, sm_row, hq]
      refine sw_lv (ih (i + 1) (by omega) (by omega)) (And.intro rfl (And.intro rfl (And.intro (sm_e rfl ?_) (And.intro rfl trivial))))
      all_goals (rw [sm_i1, nI_succ])

set_option maxHeartbeats 4000000 in
theorem c_fill {σ : sm_St} {k N : Nat} (ha : sm_aln k = some N) (v : Int32) : sm_C yJ7_fill_53178 cJ7_fill_53178 4 none 0 [.ref k, .int v] σ none (sm_row σ k (f_fill (σ k) v N)) := by
  refine sm_C.of (own := RJ7) (by decide) rfl (Nat.le_of_ble_eq_true rfl) ?_
  show sm_W RJ7 cJ7_fill_53178 4 none 0 none (sm_row σ k (f_fill (σ k) v N)) 0 [(0, .ref k), (1, .int v)] [] σ
  refine sw_iconst (v := 0) dJ7_fill_53178_0 (by decide) ?_
  refine sw_istore_n dJ7_fill_53178_1 (by decide) rfl ?_
  refine sw_aload_n dJ7_fill_53178_2 rfl ?_
  refine sw_alen dJ7_fill_53178_3 ha ?_
  refine sw_istore_n dJ7_fill_53178_4 (by decide) rfl ?_
  refine sw_st (σ2 := sm_row σ k (f_fill (σ k) v 0)) (by rw [f_fill_0, sm_row_id]) ?_
  refine sw_lv (l_fill ha v _ 0 (Nat.lt_succ_self _) (Nat.zero_le _)) (And.intro rfl (And.intro rfl (And.intro rfl (And.intro rfl trivial))))
end
section
theorem sm_vin_1 {x : Int32} {n : Nat} (h : vp_in x n) : ¬ x < 0 := fun q => h (Or.inl q)
theorem sm_vin_2 {x : Int32} {n : Nat} (h : vp_in x n) (hn : n < 2 ^ 31) : ¬ nI n ≤ x := by
  rw [vp_in_iff] at h
  rw [Int32.le_iff_toInt_le, nI_toInt hn]
  omega
theorem sm_vin_3 {x : Int32} {n : Nat} (h : vp_in x n) : x.toNatClampNeg < n := Nat.not_le.mp fun q => h (Or.inr q)
theorem sm_pF8 {t : Int32} (h : vp_in t 8) : sm_isF (16 + 8 * t.toNatClampNeg) := by
  have := sm_vin_3 h
  exact ⟨by omega, by omega⟩
theorem sm_pF2 {t : Int32} (h : vp_in t 2) : sm_isF (80 + 8 * t.toNatClampNeg) := by
  have := sm_vin_3 h
  exact ⟨by omega, by omega⟩
theorem g_copy_off {σ : sm_St} {k j q : Nat} (h : q < k ∨ k + 8 ≤ q) : g_copy σ k j q = σ q := by
  unfold g_copy
  rw [if_neg (by omega), if_neg (by omega)]
def g_top (n : Nat) (t : Int32) : Int32 := if nI n ≤ t + 1 then 0 else t + 1
def g_pot (n : Nat) (t : Int32) : Int32 := if t ≤ 0 then nI n - 1 else t - 1
theorem g_top_in {n : Nat} {t : Int32} (h : vp_in t n) (h0 : 0 < n) (hn : n < 2 ^ 30) : vp_in (g_top n t) n := by
  obtain ⟨j, hj, rfl⟩ := vp_in_of h (by omega)
  unfold g_top
  rw [nI_1]
  by_cases hq : nI n ≤ nI (j + 1)
  · rw [if_pos hq, ← nI_0]; exact vp_in_nI h0 (by omega)
  · rw [if_neg hq]
    rw [nI_leI (by omega) (by omega)] at hq
    exact vp_in_nI (by omega) (by omega)
theorem g_pot_in {n : Nat} {t : Int32} (h : vp_in t n) (h0 : 0 < n) (hn : n < 2 ^ 30) : vp_in (g_pot n t) n := by
  obtain ⟨j, hj, rfl⟩ := vp_in_of h (by omega)
  unfold g_pot
  by_cases hq : nI j ≤ 0
  · rw [if_pos hq]
    obtain ⟨m, rfl⟩ : ∃ m, n = m + 1 := ⟨n - 1, by omega⟩
    rw [nI_pred]; exact vp_in_nI (by omega) (by omega)
  · rw [if_neg hq]
    rw [← nI_0, nI_leI (by omega) (by omega)] at hq
    obtain ⟨m, rfl⟩ : ∃ m, j = m + 1 := ⟨j - 1, by omega⟩
    rw [nI_pred]; exact vp_in_nI (by omega) (by omega)
def g_push (P b n : Nat) (σ : sm_St) (f : Nat) : sm_St := sm_set (g_copy (sm_set σ P 2 (g_top n (σ P 2))) (b + 8 * (g_top n (σ P 2)).toNatClampNeg) f) P 1 (if nI n < σ P 1 + 1 then nI n else σ P 1 + 1)
def g_pop (P b n : Nat) (σ : sm_St) (f : Nat) : sm_St := sm_set (sm_set (g_copy σ f (b + 8 * (σ P 2).toNatClampNeg)) P 2 (g_pot n (σ P 2))) P 1 (σ P 1 - 1)

set_option maxHeartbeats 4000000 in
theorem c_topField104 {σ : sm_St} {t : Int32} (ht : σ 104 2 = t) (hin : vp_in t 8) : sm_C yX1_topField cX1_topField 1 (some (.object "SmellMoorings$Field")) 0 [.ref 104] σ (some (.ref (16 + 8 * t.toNatClampNeg))) σ := by
  refine sm_C.of (own := RX1) (by decide) rfl (Nat.le_of_ble_eq_true rfl) ?_
  show sm_W RX1 cX1_topField 1 (some (.object "SmellMoorings$Field")) 0 (some (.ref (16 + 8 * t.toNatClampNeg))) σ 0 [(0, .ref 104)] [] σ
  refine sw_aload_n dX1_topField_0 rfl ?_
  refine sw_getI dX1_topField_1 fl_X1_22 rfl rfl ?_
  refine sw_if_lt (tgt := 31) dX1_topField_4 (by decide) (fun h => absurd h (sm_vin_1 (ht ▸ hin))) (fun _ => ?_)
  refine sw_aload_n dX1_topField_7 rfl ?_
  refine sw_getI dX1_topField_8 fl_X1_22 rfl rfl ?_
  refine sw_aload_n dX1_topField_11 rfl ?_
  refine sw_getR (j := 105) dX1_topField_12 fl_X1_15 rfl rfl ?_
  refine sw_alenR (n := 8) (b := 16) dX1_topField_15 rfl (by decide) rfl ?_
  refine sw_icmp_ge (tgt := 31) dX1_topField_16 (by decide) (fun h => absurd h (sm_vin_2 (ht ▸ hin) (by decide))) (fun _ => ?_)
  refine sw_aload_n dX1_topField_19 rfl ?_
  refine sw_getR (j := 105) dX1_topField_20 fl_X1_15 rfl rfl ?_
  refine sw_aload_n dX1_topField_23 rfl ?_
  refine sw_getI dX1_topField_24 fl_X1_22 rfl rfl ?_
  refine sw_aald (n := 8) (b := 16) dX1_topField_27 rfl (by decide) rfl (ht ▸ hin) rfl ?_
  refine sw_goto (tgt := 32) dX1_topField_28 (by decide) ?_
  rw [ht]
  refine sw_aret dX1_topField_32 rfl ?_ ?_
  all_goals (first | with_reducible rfl | (rfl))

set_option maxHeartbeats 4000000 in
theorem c_push104 {σ : sm_St} {f : Nat} (hf : sm_isF f) (hf16 : f < 16) (hin : vp_in (σ 104 2) 8) : sm_C yX1_push cX1_push 3 none 3 [.ref 104, .ref f] σ none (g_push 104 16 8 σ f) := by
  refine sm_C.of (own := RX1) (by decide) rfl (Nat.le_of_ble_eq_true rfl) ?_
  show sm_W RX1 cX1_push 3 none 3 none (g_push 104 16 8 σ f) 0 [(0, .ref 104), (1, .ref f)] [] σ
  refine sw_aload_n dX1_push_0 rfl ?_
  refine sw_aload_n dX1_push_1 rfl ?_
  refine sw_getI dX1_push_2 fl_X1_22 rfl rfl ?_
  refine sw_iconst (v := 1) dX1_push_5 (by decide) ?_
  refine sw_iadd dX1_push_6 ?_
  refine sw_aload_n dX1_push_7 rfl ?_
  refine sw_getR (j := 105) dX1_push_8 fl_X1_15 rfl rfl ?_
  refine sw_alenR (n := 8) (b := 16) dX1_push_11 rfl (by decide) rfl ?_
  refine sw_icmp_ge (tgt := 24) dX1_push_12 (by decide) (fun h12 => ?_) (fun h12 => ?_)
  · refine sw_iconst (v := 0) dX1_push_24 (by decide) ?_
    refine sw_top (y := (g_top 8 (σ 104 2))) (by first | (rw [g_top, if_pos h12]) | (rw [g_top, if_neg h12])) ?_
    refine sw_put dX1_push_25 fl_X1_22 fi_1_2 rfl rfl ?_
    refine sw_aload_n dX1_push_28 rfl ?_
    refine sw_callV dX1_push_29 lV_X1_26 (c_topField104 (t := (g_top 8 (σ 104 2))) sm_set_eq (g_top_in hin (by decide) (by decide))) rfl rfl rfl rfl (Nat.le_of_ble_eq_true rfl) (Nat.le_of_ble_eq_true rfl) ?_
    refine sw_astore_n dX1_push_32 (by decide) rfl ?_
    refine sw_aload_n dX1_push_33 rfl ?_
    refine sw_ifnull dX1_push_34 ?_
    refine sw_aload_n dX1_push_37 rfl ?_
    refine sw_aload_n dX1_push_38 rfl ?_
    refine sw_callV dX1_push_39 lV_X1_30 (c_copyFrom (k := (16 + 8 * (g_top 8 (σ 104 2)).toNatClampNeg)) (j := f) (sm_pF8 (g_top_in hin (by decide) (by decide))) hf (by omega)) (sm_Fo (sm_pF8 (g_top_in hin (by decide) (by decide)))) rfl rfl rfl (Nat.le_of_ble_eq_true rfl) (Nat.le_of_ble_eq_true rfl) ?_
    refine sw_aload_n dX1_push_42 rfl ?_
    refine sw_aload_n dX1_push_43 rfl ?_
    refine sw_getI dX1_push_44 fl_X1_34 rfl rfl ?_
    refine sw_top (y := σ 104 1) (by rw [g_copy_off (by have := (sm_pF8 (g_top_in hin (by decide) (by decide))).1; have := (sm_pF8 (g_top_in hin (by decide) (by decide))).2; right; omega), sm_set_ne (by decide)]) ?_
    refine sw_iconst (v := 1) dX1_push_47 (by decide) ?_
    refine sw_iadd dX1_push_48 ?_
    refine sw_aload_n dX1_push_49 rfl ?_
    refine sw_getR (j := 105) dX1_push_50 fl_X1_15 rfl rfl ?_
    refine sw_alenR (n := 8) (b := 16) dX1_push_53 rfl (by decide) rfl ?_
    refine sw_min dX1_push_54 lJ_X1_37 (Nat.le_of_ble_eq_true rfl) (Nat.le_of_ble_eq_true rfl) ?_
    refine sw_put dX1_push_57 fl_X1_34 fi_1_1 rfl rfl ?_
    refine sw_vret dX1_push_60 rfl rfl ?_
    all_goals (first | with_reducible rfl | (simp only [g_push]))
  · refine sw_aload_n dX1_push_15 rfl ?_
    refine sw_getI dX1_push_16 fl_X1_22 rfl rfl ?_
    refine sw_iconst (v := 1) dX1_push_19 (by decide) ?_
    refine sw_iadd dX1_push_20 ?_
    refine sw_goto (tgt := 25) dX1_push_21 (by decide) ?_
    refine sw_top (y := (g_top 8 (σ 104 2))) (by first | (rw [g_top, if_pos h12]) | (rw [g_top, if_neg h12])) ?_
    refine sw_put dX1_push_25 fl_X1_22 fi_1_2 rfl rfl ?_
    refine sw_aload_n dX1_push_28 rfl ?_
    refine sw_callV dX1_push_29 lV_X1_26 (c_topField104 (t := (g_top 8 (σ 104 2))) sm_set_eq (g_top_in hin (by decide) (by decide))) rfl rfl rfl rfl (Nat.le_of_ble_eq_true rfl) (Nat.le_of_ble_eq_true rfl) ?_
    refine sw_astore_n dX1_push_32 (by decide) rfl ?_
    refine sw_aload_n dX1_push_33 rfl ?_
    refine sw_ifnull dX1_push_34 ?_
    refine sw_aload_n dX1_push_37 rfl ?_
    refine sw_aload_n dX1_push_38 rfl ?_
    refine sw_callV dX1_push_39 lV_X1_30 (c_copyFrom (k := (16 + 8 * (g_top 8 (σ 104 2)).toNatClampNeg)) (j := f) (sm_pF8 (g_top_in hin (by decide) (by decide))) hf (by omega)) (sm_Fo (sm_pF8 (g_top_in hin (by decide) (by decide)))) rfl rfl rfl (Nat.le_of_ble_eq_true rfl) (Nat.le_of_ble_eq_true rfl) ?_
    refine sw_aload_n dX1_push_42 rfl ?_
    refine sw_aload_n dX1_push_43 rfl ?_
    refine sw_getI dX1_push_44 fl_X1_34 rfl rfl ?_
    refine sw_top (y := σ 104 1) (by rw [g_copy_off (by have := (sm_pF8 (g_top_in hin (by decide) (by decide))).1; have := (sm_pF8 (g_top_in hin (by decide) (by decide))).2; right; omega), sm_set_ne (by decide)]) ?_
    refine sw_iconst (v := 1) dX1_push_47 (by decide) ?_
    refine sw_iadd dX1_push_48 ?_
    refine sw_aload_n dX1_push_49 rfl ?_
    refine sw_getR (j := 105) dX1_push_50 fl_X1_15 rfl rfl ?_
    refine sw_alenR (n := 8) (b := 16) dX1_push_53 rfl (by decide) rfl ?_
    refine sw_min dX1_push_54 lJ_X1_37 (Nat.le_of_ble_eq_true rfl) (Nat.le_of_ble_eq_true rfl) ?_
    refine sw_put dX1_push_57 fl_X1_34 fi_1_1 rfl rfl ?_
    refine sw_vret dX1_push_60 rfl rfl ?_
    all_goals (first | with_reducible rfl | (simp only [g_push]))

set_option maxHeartbeats 4000000 in
theorem c_popInto104 {σ : sm_St} {f : Nat} (hf : sm_isF f) (hf16 : f < 16) (hin : vp_in (σ 104 2) 8) : sm_C yX1_popInto cX1_popInto 3 (some .boolean) 3 [.ref 104, .ref f] σ (some (.int (sm_b (¬ σ 104 1 = 0)))) (if σ 104 1 = 0 then σ else g_pop 104 16 8 σ f) := by
  refine sm_C.of (own := RX1) (by decide) rfl (Nat.le_of_ble_eq_true rfl) ?_
  show sm_W RX1 cX1_popInto 3 (some .boolean) 3 (some (.int (sm_b (¬ σ 104 1 = 0)))) (if σ 104 1 = 0 then σ else g_pop 104 16 8 σ f) 0 [(0, .ref 104), (1, .ref f)] [] σ
  refine sw_aload_n dX1_popInto_0 rfl ?_
  refine sw_callV dX1_popInto_1 lV_X1_26 (c_topField104 (t := σ 104 2) rfl hin) rfl rfl rfl rfl (Nat.le_of_ble_eq_true rfl) (Nat.le_of_ble_eq_true rfl) ?_
  refine sw_astore_n dX1_popInto_4 (by decide) rfl ?_
  refine sw_aload_n dX1_popInto_5 rfl ?_
  refine sw_getI dX1_popInto_6 fl_X1_34 rfl rfl ?_
  refine sw_if_eq (tgt := 16) dX1_popInto_9 (by decide) (fun h9 => ?_) (fun h9 => ?_)
  · refine sw_iconst (v := 0) dX1_popInto_16 (by decide) ?_
    refine sw_zret dX1_popInto_17 rfl rfl ?_ (by decide) ?_
    all_goals (first | with_reducible rfl | (simp [sm_b, h9, g_pop]))
  · refine sw_aload_n dX1_popInto_12 rfl ?_
    refine sw_ifnonnull (tgt := 18) dX1_popInto_13 (by decide) ?_
    refine sw_aload_n dX1_popInto_18 rfl ?_
    refine sw_aload_n dX1_popInto_19 rfl ?_
    refine sw_callV dX1_popInto_20 lV_X1_30 (c_copyFrom (k := f) (j := (16 + 8 * (σ 104 2).toNatClampNeg)) hf (sm_pF8 hin) (by omega)) (sm_Fo hf) rfl rfl rfl (Nat.le_of_ble_eq_true rfl) (Nat.le_of_ble_eq_true rfl) ?_
    refine sw_aload_n dX1_popInto_23 rfl ?_
    refine sw_aload_n dX1_popInto_24 rfl ?_
    refine sw_getI dX1_popInto_25 fl_X1_22 rfl rfl ?_
    refine sw_top (y := σ 104 2) (by rw [g_copy_off (by have := hf.1; right; omega)]) ?_
    refine sw_if_le (tgt := 40) dX1_popInto_28 (by decide) (fun h28 => ?_) (fun h28 => ?_)
    · refine sw_aload_n dX1_popInto_40 rfl ?_
      refine sw_getR (j := 105) dX1_popInto_41 fl_X1_15 rfl rfl ?_
      refine sw_alenR (n := 8) (b := 16) dX1_popInto_44 rfl (by decide) rfl ?_
      refine sw_iconst (v := 1) dX1_popInto_45 (by decide) ?_
      refine sw_isub dX1_popInto_46 ?_
      refine sw_top (y := g_pot 8 (σ 104 2)) (by first | (rw [g_pot, if_pos h28]; done) | (rw [g_pot, if_pos h28]; rfl) | (rw [g_pot, if_neg h28])) ?_
      refine sw_put dX1_popInto_47 fl_X1_22 fi_1_2 rfl rfl ?_
      refine sw_aload_n dX1_popInto_50 rfl ?_
      refine sw_dup dX1_popInto_51 rfl ?_
      refine sw_getI dX1_popInto_52 fl_X1_34 rfl rfl ?_
      refine sw_top (y := σ 104 1) (by rw [sm_set_ne (by decide), g_copy_off (by have := hf.1; right; omega)]) ?_
      refine sw_iconst (v := 1) dX1_popInto_55 (by decide) ?_
      refine sw_isub dX1_popInto_56 ?_
      refine sw_put dX1_popInto_57 fl_X1_34 fi_1_1 rfl rfl ?_
      refine sw_iconst (v := 1) dX1_popInto_60 (by decide) ?_
      refine sw_zret dX1_popInto_61 rfl rfl ?_ (by decide) ?_
      all_goals (first | with_reducible rfl | (simp [sm_b, h9, g_pop]))
    · refine sw_aload_n dX1_popInto_31 rfl ?_
      refine sw_getI dX1_popInto_32 fl_X1_22 rfl rfl ?_
      refine sw_top (y := σ 104 2) (by rw [g_copy_off (by have := hf.1; right; omega)]) ?_
      refine sw_iconst (v := 1) dX1_popInto_35 (by decide) ?_
      refine sw_isub dX1_popInto_36 ?_
      refine sw_goto (tgt := 47) dX1_popInto_37 (by decide) ?_
      refine sw_top (y := g_pot 8 (σ 104 2)) (by first | (rw [g_pot, if_pos h28]; done) | (rw [g_pot, if_pos h28]; rfl) | (rw [g_pot, if_neg h28])) ?_
      refine sw_put dX1_popInto_47 fl_X1_22 fi_1_2 rfl rfl ?_
      refine sw_aload_n dX1_popInto_50 rfl ?_
      refine sw_dup dX1_popInto_51 rfl ?_
      refine sw_getI dX1_popInto_52 fl_X1_34 rfl rfl ?_
      refine sw_top (y := σ 104 1) (by rw [sm_set_ne (by decide), g_copy_off (by have := hf.1; right; omega)]) ?_
      refine sw_iconst (v := 1) dX1_popInto_55 (by decide) ?_
      refine sw_isub dX1_popInto_56 ?_
      refine sw_put dX1_popInto_57 fl_X1_34 fi_1_1 rfl rfl ?_
      refine sw_iconst (v := 1) dX1_popInto_60 (by decide) ?_
      refine sw_zret dX1_popInto_61 rfl rfl ?_ (by decide) ?_
      all_goals (first | with_reducible rfl | (simp [sm_b, h9, g_pop]))

set_option maxHeartbeats 4000000 in
theorem c_topField106 {σ : sm_St} {t : Int32} (ht : σ 106 2 = t) (hin : vp_in t 2) : sm_C yX1_topField cX1_topField 1 (some (.object "SmellMoorings$Field")) 0 [.ref 106] σ (some (.ref (80 + 8 * t.toNatClampNeg))) σ := by
  refine sm_C.of (own := RX1) (by decide) rfl (Nat.le_of_ble_eq_true rfl) ?_
  show sm_W RX1 cX1_topField 1 (some (.object "SmellMoorings$Field")) 0 (some (.ref (80 + 8 * t.toNatClampNeg))) σ 0 [(0, .ref 106)] [] σ
  refine sw_aload_n dX1_topField_0 rfl ?_
  refine sw_getI dX1_topField_1 fl_X1_22 rfl rfl ?_
  refine sw_if_lt (tgt := 31) dX1_topField_4 (by decide) (fun h => absurd h (sm_vin_1 (ht ▸ hin))) (fun _ => ?_)
  refine sw_aload_n dX1_topField_7 rfl ?_
  refine sw_getI dX1_topField_8 fl_X1_22 rfl rfl ?_
  refine sw_aload_n dX1_topField_11 rfl ?_
  refine sw_getR (j := 107) dX1_topField_12 fl_X1_15 rfl rfl ?_
  refine sw_alenR (n := 2) (b := 80) dX1_topField_15 rfl (by decide) rfl ?_
  refine sw_icmp_ge (tgt := 31) dX1_topField_16 (by decide) (fun h => absurd h (sm_vin_2 (ht ▸ hin) (by decide))) (fun _ => ?_)
  refine sw_aload_n dX1_topField_19 rfl ?_
  refine sw_getR (j := 107) dX1_topField_20 fl_X1_15 rfl rfl ?_
  refine sw_aload_n dX1_topField_23 rfl ?_
  refine sw_getI dX1_topField_24 fl_X1_22 rfl rfl ?_
  refine sw_aald (n := 2) (b := 80) dX1_topField_27 rfl (by decide) rfl (ht ▸ hin) rfl ?_
  refine sw_goto (tgt := 32) dX1_topField_28 (by decide) ?_
  rw [ht]
  refine sw_aret dX1_topField_32 rfl ?_ ?_
  all_goals (first | with_reducible rfl | (rfl))

set_option maxHeartbeats 4000000 in
theorem c_push106 {σ : sm_St} {f : Nat} (hf : sm_isF f) (hf16 : f < 16) (hin : vp_in (σ 106 2) 2) : sm_C yX1_push cX1_push 3 none 3 [.ref 106, .ref f] σ none (g_push 106 80 2 σ f) := by
  refine sm_C.of (own := RX1) (by decide) rfl (Nat.le_of_ble_eq_true rfl) ?_
  show sm_W RX1 cX1_push 3 none 3 none (g_push 106 80 2 σ f) 0 [(0, .ref 106), (1, .ref f)] [] σ
  refine sw_aload_n dX1_push_0 rfl ?_
  refine sw_aload_n dX1_push_1 rfl ?_
  refine sw_getI dX1_push_2 fl_X1_22 rfl rfl ?_
  refine sw_iconst (v := 1) dX1_push_5 (by decide) ?_
  refine sw_iadd dX1_push_6 ?_
  refine sw_aload_n dX1_push_7 rfl ?_
  refine sw_getR (j := 107) dX1_push_8 fl_X1_15 rfl rfl ?_
  refine sw_alenR (n := 2) (b := 80) dX1_push_11 rfl (by decide) rfl ?_
  refine sw_icmp_ge (tgt := 24) dX1_push_12 (by decide) (fun h12 => ?_) (fun h12 => ?_)
  · refine sw_iconst (v := 0) dX1_push_24 (by decide) ?_
    refine sw_top (y := (g_top 2 (σ 106 2))) (by first | (rw [g_top, if_pos h12]) | (rw [g_top, if_neg h12])) ?_
    refine sw_put dX1_push_25 fl_X1_22 fi_1_2 rfl rfl ?_
    refine sw_aload_n dX1_push_28 rfl ?_
    refine sw_callV dX1_push_29 lV_X1_26 (c_topField106 (t := (g_top 2 (σ 106 2))) sm_set_eq (g_top_in hin (by decide) (by decide))) rfl rfl rfl rfl (Nat.le_of_ble_eq_true rfl) (Nat.le_of_ble_eq_true rfl) ?_
    refine sw_astore_n dX1_push_32 (by decide) rfl ?_
    refine sw_aload_n dX1_push_33 rfl ?_
    refine sw_ifnull dX1_push_34 ?_
    refine sw_aload_n dX1_push_37 rfl ?_
    refine sw_aload_n dX1_push_38 rfl ?_
    refine sw_callV dX1_push_39 lV_X1_30 (c_copyFrom (k := (80 + 8 * (g_top 2 (σ 106 2)).toNatClampNeg)) (j := f) (sm_pF2 (g_top_in hin (by decide) (by decide))) hf (by omega)) (sm_Fo (sm_pF2 (g_top_in hin (by decide) (by decide)))) rfl rfl rfl (Nat.le_of_ble_eq_true rfl) (Nat.le_of_ble_eq_true rfl) ?_
    refine sw_aload_n dX1_push_42 rfl ?_
    refine sw_aload_n dX1_push_43 rfl ?_
    refine sw_getI dX1_push_44 fl_X1_34 rfl rfl ?_
    refine sw_top (y := σ 106 1) (by rw [g_copy_off (by have := (sm_pF2 (g_top_in hin (by decide) (by decide))).1; have := (sm_pF2 (g_top_in hin (by decide) (by decide))).2; right; omega), sm_set_ne (by decide)]) ?_
    refine sw_iconst (v := 1) dX1_push_47 (by decide) ?_
    refine sw_iadd dX1_push_48 ?_
    refine sw_aload_n dX1_push_49 rfl ?_
    refine sw_getR (j := 107) dX1_push_50 fl_X1_15 rfl rfl ?_
    refine sw_alenR (n := 2) (b := 80) dX1_push_53 rfl (by decide) rfl ?_
    refine sw_min dX1_push_54 lJ_X1_37 (Nat.le_of_ble_eq_true rfl) (Nat.le_of_ble_eq_true rfl) ?_
    refine sw_put dX1_push_57 fl_X1_34 fi_1_1 rfl rfl ?_
    refine sw_vret dX1_push_60 rfl rfl ?_
    all_goals (first | with_reducible rfl | (simp only [g_push]))
  · refine sw_aload_n dX1_push_15 rfl ?_
    refine sw_getI dX1_push_16 fl_X1_22 rfl rfl ?_
    refine sw_iconst (v := 1) dX1_push_19 (by decide) ?_
    refine sw_iadd dX1_push_20 ?_
    refine sw_goto (tgt := 25) dX1_push_21 (by decide) ?_
    refine sw_top (y := (g_top 2 (σ 106 2))) (by first | (rw [g_top, if_pos h12]) | (rw [g_top, if_neg h12])) ?_
    refine sw_put dX1_push_25 fl_X1_22 fi_1_2 rfl rfl ?_
    refine sw_aload_n dX1_push_28 rfl ?_
    refine sw_callV dX1_push_29 lV_X1_26 (c_topField106 (t := (g_top 2 (σ 106 2))) sm_set_eq (g_top_in hin (by decide) (by decide))) rfl rfl rfl rfl (Nat.le_of_ble_eq_true rfl) (Nat.le_of_ble_eq_true rfl) ?_
    refine sw_astore_n dX1_push_32 (by decide) rfl ?_
    refine sw_aload_n dX1_push_33 rfl ?_
    refine sw_ifnull dX1_push_34 ?_
    refine sw_aload_n dX1_push_37 rfl ?_
    refine sw_aload_n dX1_push_38 rfl ?_
    refine sw_callV dX1_push_39 lV_X1_30 (c_copyFrom (k := (80 + 8 * (g_top 2 (σ 106 2)).toNatClampNeg)) (j := f) (sm_pF2 (g_top_in hin (by decide) (by decide))) hf (by omega)) (sm_Fo (sm_pF2 (g_top_in hin (by decide) (by decide)))) rfl rfl rfl (Nat.le_of_ble_eq_true rfl) (Nat.le_of_ble_eq_true rfl) ?_
    refine sw_aload_n dX1_push_42 rfl ?_
    refine sw_aload_n dX1_push_43 rfl ?_
    refine sw_getI dX1_push_44 fl_X1_34 rfl rfl ?_
    refine sw_top (y := σ 106 1) (by rw [g_copy_off (by have := (sm_pF2 (g_top_in hin (by decide) (by decide))).1; have := (sm_pF2 (g_top_in hin (by decide) (by decide))).2; right; omega), sm_set_ne (by decide)]) ?_
    refine sw_iconst (v := 1) dX1_push_47 (by decide) ?_
    refine sw_iadd dX1_push_48 ?_
    refine sw_aload_n dX1_push_49 rfl ?_
    refine sw_getR (j := 107) dX1_push_50 fl_X1_15 rfl rfl ?_
    refine sw_alenR (n := 2) (b := 80) dX1_push_53 rfl (by decide) rfl ?_
    refine sw_min dX1_push_54 lJ_X1_37 (Nat.le_of_ble_eq_true rfl) (Nat.le_of_ble_eq_true rfl) ?_
    refine sw_put dX1_push_57 fl_X1_34 fi_1_1 rfl rfl ?_
    refine sw_vret dX1_push_60 rfl rfl ?_
    all_goals (first | with_reducible rfl | (simp only [g_push]))

set_option maxHeartbeats 4000000 in
theorem c_popInto106 {σ : sm_St} {f : Nat} (hf : sm_isF f) (hf16 : f < 16) (hin : vp_in (σ 106 2) 2) : sm_C yX1_popInto cX1_popInto 3 (some .boolean) 3 [.ref 106, .ref f] σ (some (.int (sm_b (¬ σ 106 1 = 0)))) (if σ 106 1 = 0 then σ else g_pop 106 80 2 σ f) := by
  refine sm_C.of (own := RX1) (by decide) rfl (Nat.le_of_ble_eq_true rfl) ?_
  show sm_W RX1 cX1_popInto 3 (some .boolean) 3 (some (.int (sm_b (¬ σ 106 1 = 0)))) (if σ 106 1 = 0 then σ else g_pop 106 80 2 σ f) 0 [(0, .ref 106), (1, .ref f)] [] σ
  refine sw_aload_n dX1_popInto_0 rfl ?_
  refine sw_callV dX1_popInto_1 lV_X1_26 (c_topField106 (t := σ 106 2) rfl hin) rfl rfl rfl rfl (Nat.le_of_ble_eq_true rfl) (Nat.le_of_ble_eq_true rfl) ?_
  refine sw_astore_n dX1_popInto_4 (by decide) rfl ?_
  refine sw_aload_n dX1_popInto_5 rfl ?_
  refine sw_getI dX1_popInto_6 fl_X1_34 rfl rfl ?_
  refine sw_if_eq (tgt := 16) dX1_popInto_9 (by decide) (fun h9 => ?_) (fun h9 => ?_)
  · refine sw_iconst (v := 0) dX1_popInto_16 (by decide) ?_
    refine sw_zret dX1_popInto_17 rfl rfl ?_ (by decide) ?_
    all_goals (first | with_reducible rfl | (simp [sm_b, h9, g_pop]))
  · refine sw_aload_n dX1_popInto_12 rfl ?_
    refine sw_ifnonnull (tgt := 18) dX1_popInto_13 (by decide) ?_
    refine sw_aload_n dX1_popInto_18 rfl ?_
    refine sw_aload_n dX1_popInto_19 rfl ?_
    refine sw_callV dX1_popInto_20 lV_X1_30 (c_copyFrom (k := f) (j := (80 + 8 * (σ 106 2).toNatClampNeg)) hf (sm_pF2 hin) (by omega)) (sm_Fo hf) rfl rfl rfl (Nat.le_of_ble_eq_true rfl) (Nat.le_of_ble_eq_true rfl) ?_
    refine sw_aload_n dX1_popInto_23 rfl ?_
    refine sw_aload_n dX1_popInto_24 rfl ?_
    refine sw_getI dX1_popInto_25 fl_X1_22 rfl rfl ?_
    refine sw_top (y := σ 106 2) (by rw [g_copy_off (by have := hf.1; right; omega)]) ?_
    refine sw_if_le (tgt := 40) dX1_popInto_28 (by decide) (fun h28 => ?_) (fun h28 => ?_)
    · refine sw_aload_n dX1_popInto_40 rfl ?_
      refine sw_getR (j := 107) dX1_popInto_41 fl_X1_15 rfl rfl ?_
      refine sw_alenR (n := 2) (b := 80) dX1_popInto_44 rfl (by decide) rfl ?_
      refine sw_iconst (v := 1) dX1_popInto_45 (by decide) ?_
      refine sw_isub dX1_popInto_46 ?_
      refine sw_top (y := g_pot 2 (σ 106 2)) (by first | (rw [g_pot, if_pos h28]; done) | (rw [g_pot, if_pos h28]; rfl) | (rw [g_pot, if_neg h28])) ?_
      refine sw_put dX1_popInto_47 fl_X1_22 fi_1_2 rfl rfl ?_
      refine sw_aload_n dX1_popInto_50 rfl ?_
      refine sw_dup dX1_popInto_51 rfl ?_
      refine sw_getI dX1_popInto_52 fl_X1_34 rfl rfl ?_
      refine sw_top (y := σ 106 1) (by rw [sm_set_ne (by decide), g_copy_off (by have := hf.1; right; omega)]) ?_
      refine sw_iconst (v := 1) dX1_popInto_55 (by decide) ?_
      refine sw_isub dX1_popInto_56 ?_
      refine sw_put dX1_popInto_57 fl_X1_34 fi_1_1 rfl rfl ?_
      refine sw_iconst (v := 1) dX1_popInto_60 (by decide) ?_
      refine sw_zret dX1_popInto_61 rfl rfl ?_ (by decide) ?_
      all_goals (first | with_reducible rfl | (simp [sm_b, h9, g_pop]))
    · refine sw_aload_n dX1_popInto_31 rfl ?_
      refine sw_getI dX1_popInto_32 fl_X1_22 rfl rfl ?_
      refine sw_top (y := σ 106 2) (by rw [g_copy_off (by have := hf.1; right; omega)]) ?_
      refine sw_iconst (v := 1) dX1_popInto_35 (by decide) ?_
      refine sw_isub dX1_popInto_36 ?_
      refine sw_goto (tgt := 47) dX1_popInto_37 (by decide) ?_
      refine sw_top (y := g_pot 2 (σ 106 2)) (by first | (rw [g_pot, if_pos h28]; done) | (rw [g_pot, if_pos h28]; rfl) | (rw [g_pot, if_neg h28])) ?_
      refine sw_put dX1_popInto_47 fl_X1_22 fi_1_2 rfl rfl ?_
      refine sw_aload_n dX1_popInto_50 rfl ?_
      refine sw_dup dX1_popInto_51 rfl ?_
      refine sw_getI dX1_popInto_52 fl_X1_34 rfl rfl ?_
      refine sw_top (y := σ 106 1) (by rw [sm_set_ne (by decide), g_copy_off (by have := hf.1; right; omega)]) ?_
      refine sw_iconst (v := 1) dX1_popInto_55 (by decide) ?_
      refine sw_isub dX1_popInto_56 ?_
      refine sw_put dX1_popInto_57 fl_X1_34 fi_1_1 rfl rfl ?_
      refine sw_iconst (v := 1) dX1_popInto_60 (by decide) ?_
      refine sw_zret dX1_popInto_61 rfl rfl ?_ (by decide) ?_
      all_goals (first | with_reducible rfl | (simp [sm_b, h9, g_pop]))

def g_seen (σ : sm_St) (x y d : Int32) : sm_St := sm_set (r_set (r_set (r_set σ 101 6 (σ 100 3) x) 102 6 (σ 100 3) y) 103 6 (σ 100 3) d) 100 3 (σ 100 3 + 1)
/-- whether all that is seen from the i-th on would be so for the Field k -/
def g_so (k : Nat) : Nat → Nat → sm_St → Int32 × sm_St
  | 0, _, σ => (1, σ)
  | n + 1, i, σ => if f_goes (sm_V (sm_set (sm_set σ k 0 (r_at (σ 101) 6 (nI i))) k 1 (r_at (σ 102) 6 (nI i))) k) = r_at (σ 103) 6 (nI i) then g_so k n (i + 1) (g_goes (sm_set (sm_set σ k 0 (r_at (σ 101) 6 (nI i))) k 1 (r_at (σ 102) 6 (nI i))) k)
      else (0, g_goes (sm_set (sm_set σ k 0 (r_at (σ 101) 6 (nI i))) k 1 (r_at (σ 102) 6 (nI i))) k)
theorem g_goes_off {σ : sm_St} {k q : Nat} (h : q ≠ k) : g_goes σ k q = σ q := by unfold g_goes; rw [sm_set_off h, sm_set_off h]

set_option maxHeartbeats 4000000 in
theorem c_addSighting {σ : sm_St} (x y d : Int32) : sm_C yX3_addSighting cX3_addSighting 4 (some .boolean) 2 [.ref 100, .int x, .int y, .int d] σ (some (.int (sm_b (σ 100 3 < 6)))) (if σ 100 3 < 6 then g_seen σ x y d else σ) := by
  refine sm_C.of (own := RX3) (by decide) rfl (Nat.le_of_ble_eq_true rfl) ?_
  show sm_W RX3 cX3_addSighting 4 (some .boolean) 2 (some (.int (sm_b (σ 100 3 < 6)))) (if σ 100 3 < 6 then g_seen σ x y d else σ) 0 [(0, .ref 100), (1, .int x), (2, .int y), (3, .int d)] [] σ
  refine sw_aload_n dX3_addSighting_0 rfl ?_
  refine sw_getI dX3_addSighting_1 fl_X3_21 rfl rfl ?_
  refine sw_bipush (v := 6) dX3_addSighting_4 (by decide) ?_
  refine sw_icmp_lt (tgt := 11) dX3_addSighting_6 (by decide) (fun h6 => ?_) (fun h6 => ?_)
  · refine sw_aload_n dX3_addSighting_11 rfl ?_
    refine sw_getR (j := 101) dX3_addSighting_12 fl_X3_9 rfl rfl ?_
    refine sw_aload_n dX3_addSighting_15 rfl ?_
    refine sw_getI dX3_addSighting_16 fl_X3_21 rfl rfl ?_
    refine sw_iload_n dX3_addSighting_19 rfl ?_
    refine sw_callS dX3_addSighting_20 lS_X3_25 (c_set (k := 101) rfl _ _) rfl rfl (Nat.le_of_ble_eq_true rfl) (Nat.le_of_ble_eq_true rfl) ?_
    refine sw_aload_n dX3_addSighting_23 rfl ?_
    refine sw_getR (j := 102) dX3_addSighting_24 fl_X3_15 rfl rfl ?_
    refine sw_aload_n dX3_addSighting_27 rfl ?_
    refine sw_getI dX3_addSighting_28 fl_X3_21 rfl rfl ?_
    refine sw_iload_n dX3_addSighting_31 rfl ?_
    refine sw_callS dX3_addSighting_32 lS_X3_25 (c_set (k := 102) rfl _ _) rfl rfl (Nat.le_of_ble_eq_true rfl) (Nat.le_of_ble_eq_true rfl) ?_
    refine sw_aload_n dX3_addSighting_35 rfl ?_
    refine sw_getR (j := 103) dX3_addSighting_36 fl_X3_18 rfl rfl ?_
    refine sw_aload_n dX3_addSighting_39 rfl ?_
    refine sw_getI dX3_addSighting_40 fl_X3_21 rfl rfl ?_
    refine sw_iload_n dX3_addSighting_43 rfl ?_
    refine sw_callS dX3_addSighting_44 lS_X3_25 (c_set (k := 103) rfl _ _) rfl rfl (Nat.le_of_ble_eq_true rfl) (Nat.le_of_ble_eq_true rfl) ?_
    refine sw_aload_n dX3_addSighting_47 rfl ?_
    refine sw_dup dX3_addSighting_48 rfl ?_
    refine sw_getI dX3_addSighting_49 fl_X3_21 rfl rfl ?_
    refine sw_iconst (v := 1) dX3_addSighting_52 (by decide) ?_
    refine sw_iadd dX3_addSighting_53 ?_
    refine sw_put dX3_addSighting_54 fl_X3_21 fi_2_3 rfl rfl ?_
    refine sw_iconst (v := 1) dX3_addSighting_57 (by decide) ?_
    refine sw_zret dX3_addSighting_58 rfl rfl ?_ (by decide) ?_
    all_goals (first | with_reducible rfl | (simp [sm_b, h6, g_seen, r_set_off]))
  · refine sw_iconst (v := 0) dX3_addSighting_9 (by decide) ?_
    refine sw_zret dX3_addSighting_10 rfl rfl ?_ (by decide) ?_
    all_goals (first | with_reducible rfl | (simp [sm_b, h6, g_seen, r_set_off]))

set_option maxHeartbeats 4000000 in
theorem l_areSoIn {k : Nat} (hk : sm_isF k) : ∀ (n i : Nat) (τ : sm_St), i + n = (τ 100 3).toNatClampNeg → sm_W RX3 cX3_areSoIn 3 (some .boolean) 5 (some (.int (g_so k n i τ).1)) (g_so k n i τ).2 2 [(0, .ref 100), (1, .ref k), (2, .int (nI i))] [] τ := by
  have hk1 := hk.1
  intro n
  induction n with
  | zero =>
    intro i τ h1
    refine sw_iload_n dX3_areSoIn_2 rfl ?_
    refine sw_aload_n dX3_areSoIn_3 rfl ?_
    refine sw_getI dX3_areSoIn_4 fl_X3_21 rfl rfl ?_
    refine sw_icmp_ge (tgt := 53) dX3_areSoIn_7 (by decide) (fun _ => ?_) (fun h => absurd ((sm_le_clamp (by have := sm_clamp_lt (τ 100 3); omega)).mpr (by omega)) h)
    refine sw_iconst (v := 1) dX3_areSoIn_53 (by decide) ?_
    refine sw_zret dX3_areSoIn_54 rfl rfl ?_ (by decide) ?_
    all_goals (first | with_reducible rfl | (rfl))
  | succ n ih =>
    intro i τ h1
    refine sw_iload_n dX3_areSoIn_2 rfl ?_
    refine sw_aload_n dX3_areSoIn_3 rfl ?_
    refine sw_getI dX3_areSoIn_4 fl_X3_21 rfl rfl ?_
    refine sw_icmp_ge (tgt := 53) dX3_areSoIn_7 (by decide) (fun h => absurd h ((fun h => absurd ((sm_le_clamp (by have := sm_clamp_lt (τ 100 3); omega)).mp h) (by omega)))) (fun _ => ?_)
    refine sw_aload_n dX3_areSoIn_10 rfl ?_
    refine sw_aload_n dX3_areSoIn_11 rfl ?_
    refine sw_getR (j := 101) dX3_areSoIn_12 fl_X3_9 rfl rfl ?_
    refine sw_iload_n dX3_areSoIn_15 rfl ?_
    refine sw_callS dX3_areSoIn_16 lS_X3_31 (c_at (k := 101) rfl _) rfl rfl (Nat.le_of_ble_eq_true rfl) (Nat.le_of_ble_eq_true rfl) ?_
    refine sw_aload_n dX3_areSoIn_19 rfl ?_
    refine sw_getR (j := 102) dX3_areSoIn_20 fl_X3_15 rfl rfl ?_
    refine sw_iload_n dX3_areSoIn_23 rfl ?_
    refine sw_callS dX3_areSoIn_24 lS_X3_31 (c_at (k := 102) rfl _) rfl rfl (Nat.le_of_ble_eq_true rfl) (Nat.le_of_ble_eq_true rfl) ?_
    refine sw_callV dX3_areSoIn_27 lV_X3_35 (c_moveShip (k := k) hk _ _) (sm_Fo hk) rfl rfl rfl (Nat.le_of_ble_eq_true rfl) (Nat.le_of_ble_eq_true rfl) ?_
    refine sw_aload_n dX3_areSoIn_30 rfl ?_
    refine sw_callV dX3_areSoIn_31 lV_X3_41 (c_goesTo (k := k) hk) (sm_Fo hk) rfl rfl rfl (Nat.le_of_ble_eq_true rfl) (Nat.le_of_ble_eq_true rfl) ?_
    refine sw_aload_n dX3_areSoIn_34 rfl ?_
    refine sw_getR (j := 103) dX3_areSoIn_35 fl_X3_18 rfl rfl ?_
    refine sw_iload_n dX3_areSoIn_38 rfl ?_
    refine sw_callS dX3_areSoIn_39 lS_X3_31 (c_at (k := 103) rfl _) rfl rfl (Nat.le_of_ble_eq_true rfl) (Nat.le_of_ble_eq_true rfl) ?_
    refine sw_top (y := r_at (τ 103) 6 (nI i)) (by rw [g_goes_off (by omega), sm_set_off (by omega), sm_set_off (by omega)]) ?_
    refine sw_icmp_eq (tgt := 47) dX3_areSoIn_42 (by decide) (fun h42 => ?_) (fun h42 => ?_)
    · refine sw_iinc dX3_areSoIn_47 rfl rfl (by decide) rfl ?_
      refine sw_goto (tgt := 2) dX3_areSoIn_50 (by decide) ?_
      have e : g_so k (n + 1) i τ = g_so k n (i + 1) (g_goes (sm_set (sm_set τ k 0 (r_at (τ 101) 6 (nI i))) k 1 (r_at (τ 102) 6 (nI i))) k) := by rw [g_so, if_pos h42]
      rw [e]
      refine sw_lv (ih (i + 1) _ (by rw [g_goes_off (by omega), sm_set_off (by omega), sm_set_off (by omega)]; omega)) (And.intro rfl (And.intro rfl (And.intro (sm_e rfl ?_) trivial)))
      all_goals (rw [sm_i1, nI_succ])
    · refine sw_iconst (v := 0) dX3_areSoIn_45 (by decide) ?_
      refine sw_zret dX3_areSoIn_46 rfl rfl ?_ (by decide) ?_
      all_goals (first | with_reducible rfl | (rw [g_so, if_neg h42]))

set_option maxHeartbeats 4000000 in
theorem c_areSoIn {σ : sm_St} {k : Nat} (hk : sm_isF k) : sm_C yX3_areSoIn cX3_areSoIn 3 (some .boolean) 5 [.ref 100, .ref k] σ (some (.int (g_so k (σ 100 3).toNatClampNeg 0 σ).1)) (g_so k (σ 100 3).toNatClampNeg 0 σ).2 := by
  refine sm_C.of (own := RX3) (by decide) rfl (Nat.le_of_ble_eq_true rfl) ?_
  show sm_W RX3 cX3_areSoIn 3 (some .boolean) 5 (some (.int (g_so k (σ 100 3).toNatClampNeg 0 σ).1)) (g_so k (σ 100 3).toNatClampNeg 0 σ).2 0 [(0, .ref 100), (1, .ref k)] [] σ
  refine sw_iconst (v := 0) dX3_areSoIn_0 (by decide) ?_
  refine sw_istore_n dX3_areSoIn_1 (by decide) rfl ?_
  refine sw_lv (l_areSoIn hk _ 0 σ (by omega)) (And.intro rfl (And.intro rfl (And.intro rfl trivial)))
end
section
/-! the text: cell 97, its letters 98, its numbers 99 -/
def x_here (σ : sm_St) : Int32 := if σ 97 2 ≤ σ 97 3 then 0 else r_at (σ 98) 200 (σ 97 3)
def x_inc (σ : sm_St) : sm_St := sm_set σ 97 3 (σ 97 3 + 1)
abbrev x_dig (c : Int32) : Bool := sm_win c 48 57
def x_mx (n : Int32) : Int32 := if 0 < n then n else 0
def x_num (σ : sm_St) : Int32 × sm_St :=
  if x_dig (x_here σ) = true then
    (if x_dig (x_here (x_inc σ)) = true then (x_mx (x_mx (-4) * 10 + x_here σ - 48) * 10 + x_here (x_inc σ) - 48, x_inc (x_inc σ)) else (x_mx (-4) * 10 + x_here σ - 48, x_inc σ))
  else (-4, σ)
def x_one (σ : sm_St) (i sep : Int32) : Bool × sm_St := if (x_num σ).1 < 0 ∨ ¬ x_here (x_num σ).2 = sep then (false, (x_num σ).2) else (true, x_inc (r_set (x_num σ).2 99 3 i (x_num σ).1))
def x_two (σ : sm_St) : Bool × sm_St := if (x_one σ 0 44).1 = true then x_one (x_one σ 0 44).2 1 59 else (false, (x_one σ 0 44).2)
def x_three (σ : sm_St) : Bool × sm_St := if (x_one σ 0 44).1 = true then (if (x_one (x_one σ 0 44).2 1 44).1 = true then x_one (x_one (x_one σ 0 44).2 1 44).2 2 59 else (false, (x_one (x_one σ 0 44).2 1 44).2)) else (false, (x_one σ 0 44).2)
def t_ship (σ : sm_St) (k : Nat) (a b c : Int32) : Int32 × sm_St := if sm_cell a b = true ∧ c ≤ 20 then (1, sm_set (sm_set (sm_set σ k 0 a) k 1 b) k 2 c) else (0, σ)
def t_wind (σ : sm_St) (k : Nat) (a b : Int32) : Int32 × sm_St := if ¬ 4 < a ∧ b ≤ 20 then (1, sm_set (sm_set σ k 3 a) k 4 b) else (0, σ)
def t_post (σ : sm_St) (k : Nat) (a b c : Int32) : Int32 × sm_St := if ¬ 5 ≤ σ k 6 ∧ sm_cell a b = true ∧ c ≤ 5 then (1, g_addP σ k a b c) else (0, σ)
def t_one (σ : sm_St) (k : Nat) (a b c : Int32) : Int32 × sm_St := if ¬ 7 ≤ σ k 7 ∧ ¬ 3 < a ∧ ¬ 5 < b ∧ sm_win c 1 9 = true then (1, g_addS σ k a b c) else (0, σ)
def x_tell (σ : sm_St) (k : Nat) (L : Int32) : Int32 × sm_St :=
  if L = 115 then t_ship σ k (r_at (σ 99) 3 0) (r_at (σ 99) 3 1) (r_at (σ 99) 3 2) else if L = 119 then t_wind σ k (r_at (σ 99) 3 0) (r_at (σ 99) 3 1)
  else if L = 112 then t_post σ k (r_at (σ 99) 3 0) (r_at (σ 99) 3 1) (r_at (σ 99) 3 2) else if L = 99 then t_one σ k (r_at (σ 99) 3 0) (r_at (σ 99) 3 1) (r_at (σ 99) 3 2) else (0, σ)
def x_nums (σ : sm_St) (L : Int32) : Bool × sm_St := if L = 119 then x_two σ else x_three σ
def x_item (σ : sm_St) (k : Nat) : Int32 × sm_St := if (x_nums (x_inc σ) (x_here σ)).1 = true then x_tell (x_nums (x_inc σ) (x_here σ)).2 k (x_here σ) else (0, (x_nums (x_inc σ) (x_here σ)).2)
def x_read (k : Nat) : Nat → sm_St → Int32 × sm_St
  | 0, σ => (-4, σ)
  | n + 1, σ => if σ 97 2 ≤ σ 97 3 then (-4, σ) else if (x_item σ k).1 = 0 then (σ 97 3, (x_item σ k).2) else x_read k n (x_item σ k).2
def x_into (σ : sm_St) (k : Nat) : Int32 × sm_St := x_read k 200 (sm_set (g_clear σ k) 97 3 0)
theorem t_b01 {σ : sm_St} {k : Nat} {a b c : Int32} : ((t_ship σ k a b c).1 = 0 ∨ (t_ship σ k a b c).1 = 1) ∧ ((t_wind σ k a b).1 = 0 ∨ (t_wind σ k a b).1 = 1) ∧ ((t_post σ k a b c).1 = 0 ∨ (t_post σ k a b c).1 = 1) ∧ ((t_one σ k a b c).1 = 0 ∨ (t_one σ k a b c).1 = 1) := by
  unfold t_ship t_wind t_post t_one
  refine ⟨?_, ?_, ?_, ?_⟩ <;> split <;> simp

set_option maxHeartbeats 4000000 in
theorem c_addLetter {σ : sm_St} (c : Int32) : sm_C yX4_addLetter cX4_addLetter 2 (some .boolean) 2 [.ref 97, .int c] σ (some (.int (sm_b (σ 97 2 < nI 200)))) (if σ 97 2 < nI 200 then sm_set (r_set σ 98 200 (σ 97 2) c) 97 2 (σ 97 2 + 1) else σ) := by
  refine sm_C.of (own := RX4) (by decide) rfl (Nat.le_of_ble_eq_true rfl) ?_
  show sm_W RX4 cX4_addLetter 2 (some .boolean) 2 (some (.int (sm_b (σ 97 2 < nI 200)))) (if σ 97 2 < nI 200 then sm_set (r_set σ 98 200 (σ 97 2) c) 97 2 (σ 97 2 + 1) else σ) 0 [(0, .ref 97), (1, .int c)] [] σ
  refine sw_aload_n dX4_addLetter_0 rfl ?_
  refine sw_getI dX4_addLetter_1 fl_X4_18 rfl rfl ?_
  refine sw_aload_n dX4_addLetter_4 rfl ?_
  refine sw_getR (j := 98) dX4_addLetter_5 fl_X4_9 rfl rfl ?_
  refine sw_alen dX4_addLetter_8 rfl ?_
  refine sw_icmp_lt (tgt := 14) dX4_addLetter_9 (by decide) (fun h9 => ?_) (fun h9 => ?_)
  · refine sw_aload_n dX4_addLetter_14 rfl ?_
    refine sw_getR (j := 98) dX4_addLetter_15 fl_X4_9 rfl rfl ?_
    refine sw_aload_n dX4_addLetter_18 rfl ?_
    refine sw_getI dX4_addLetter_19 fl_X4_18 rfl rfl ?_
    refine sw_iload_n dX4_addLetter_22 rfl ?_
    refine sw_callS dX4_addLetter_23 lS_X4_22 (c_set (k := 98) rfl _ _) rfl rfl (Nat.le_of_ble_eq_true rfl) (Nat.le_of_ble_eq_true rfl) ?_
    refine sw_aload_n dX4_addLetter_26 rfl ?_
    refine sw_dup dX4_addLetter_27 rfl ?_
    refine sw_getI dX4_addLetter_28 fl_X4_18 rfl rfl ?_
    refine sw_iconst (v := 1) dX4_addLetter_31 (by decide) ?_
    refine sw_iadd dX4_addLetter_32 ?_
    refine sw_put dX4_addLetter_33 fl_X4_18 fi_3_2 rfl rfl ?_
    refine sw_iconst (v := 1) dX4_addLetter_36 (by decide) ?_
    refine sw_zret dX4_addLetter_37 rfl rfl ?_ (by decide) ?_
    all_goals (first | with_reducible rfl | (simp [sm_b, h9, r_set_off]))
  · refine sw_iconst (v := 0) dX4_addLetter_12 (by decide) ?_
    refine sw_zret dX4_addLetter_13 rfl rfl ?_ (by decide) ?_
    all_goals (first | with_reducible rfl | (simp [sm_b, h9, r_set_off]))

set_option maxHeartbeats 4000000 in
theorem c_here {σ : sm_St} : sm_C yX4_letterHere cX4_letterHere 1 (some .int) 2 [.ref 97] σ (some (.int (x_here σ))) σ := by
  refine sm_C.of (own := RX4) (by decide) rfl (Nat.le_of_ble_eq_true rfl) ?_
  show sm_W RX4 cX4_letterHere 1 (some .int) 2 (some (.int (x_here σ))) σ 0 [(0, .ref 97)] [] σ
  refine sw_aload_n dX4_letterHere_0 rfl ?_
  refine sw_getI dX4_letterHere_1 fl_X4_33 rfl rfl ?_
  refine sw_aload_n dX4_letterHere_4 rfl ?_
  refine sw_getI dX4_letterHere_5 fl_X4_18 rfl rfl ?_
  refine sw_icmp_ge (tgt := 25) dX4_letterHere_8 (by decide) (fun h8 => ?_) (fun h8 => ?_)
  · refine sw_iconst (v := 0) dX4_letterHere_25 (by decide) ?_
    refine sw_iret dX4_letterHere_26 rfl rfl ?_ ?_
    all_goals (first | with_reducible rfl | (simp [x_here, h8]))
  · refine sw_aload_n dX4_letterHere_11 rfl ?_
    refine sw_getR (j := 98) dX4_letterHere_12 fl_X4_9 rfl rfl ?_
    refine sw_aload_n dX4_letterHere_15 rfl ?_
    refine sw_getI dX4_letterHere_16 fl_X4_33 rfl rfl ?_
    refine sw_callS dX4_letterHere_19 lS_X4_47 (c_at (k := 98) rfl _) rfl rfl (Nat.le_of_ble_eq_true rfl) (Nat.le_of_ble_eq_true rfl) ?_
    refine sw_goto (tgt := 26) dX4_letterHere_22 (by decide) ?_
    refine sw_iret dX4_letterHere_26 rfl rfl ?_ ?_
    all_goals (first | with_reducible rfl | (simp [x_here, h8]))

set_option maxHeartbeats 4000000 in
theorem c_readNumber {σ : sm_St} : sm_C yX4_readNumber cX4_readNumber 3 (some .int) 3 [.ref 97] σ (some (.int (x_num σ).1)) (x_num σ).2 := by
  refine sm_C.of (own := RX4) (by decide) rfl (Nat.le_of_ble_eq_true rfl) ?_
  show sm_W RX4 cX4_readNumber 3 (some .int) 3 (some (.int (x_num σ).1)) (x_num σ).2 0 [(0, .ref 97)] [] σ
  refine sw_bipush (v := -4) dX4_readNumber_0 (by decide) ?_
  refine sw_istore_n dX4_readNumber_2 (by decide) rfl ?_
  refine sw_iconst (v := 0) dX4_readNumber_3 (by decide) ?_
  refine sw_istore_n dX4_readNumber_4 (by decide) rfl ?_
  refine sw_iload_n dX4_readNumber_5 rfl ?_
  refine sw_iconst (v := 2) dX4_readNumber_6 (by decide) ?_
  refine sw_icmp_ge (tgt := 57) dX4_readNumber_7 (by decide) (fun h => absurd h (by decide)) (fun _ => ?_)
  refine sw_aload_n dX4_readNumber_10 rfl ?_
  refine sw_callV dX4_readNumber_11 lV_X4_40 (c_here) rfl rfl rfl rfl (Nat.le_of_ble_eq_true rfl) (Nat.le_of_ble_eq_true rfl) ?_
  refine sw_bipush (v := 48) dX4_readNumber_14 (by decide) ?_
  refine sw_bipush (v := 57) dX4_readNumber_16 (by decide) ?_
  refine sw_callN dX4_readNumber_18 lN_X4_65 (c_within _ _ _) (fun h => h.2.2.2.1) rfl rfl (Nat.le_of_ble_eq_true rfl) (Nat.le_of_ble_eq_true rfl) ?_
  refine sw_if_eq (tgt := 57) dX4_readNumber_21 (by decide) (fun h21 => ?_) (fun h21 => ?_)
  · refine sw_iload_n dX4_readNumber_57 rfl ?_
    refine sw_iret dX4_readNumber_58 rfl rfl ?_ ?_
    all_goals (first | with_reducible rfl | (simp_all [x_num, x_mx, sm_b_e0]))
  · refine sw_iconst (v := 0) dX4_readNumber_24 (by decide) ?_
    refine sw_iload_n dX4_readNumber_25 rfl ?_
    refine sw_max dX4_readNumber_26 lJ_X4_69 (Nat.le_of_ble_eq_true rfl) (Nat.le_of_ble_eq_true rfl) ?_
    refine sw_bipush (v := 10) dX4_readNumber_29 (by decide) ?_
    refine sw_imul dX4_readNumber_31 ?_
    refine sw_aload_n dX4_readNumber_32 rfl ?_
    refine sw_callV dX4_readNumber_33 lV_X4_40 (c_here) rfl rfl rfl rfl (Nat.le_of_ble_eq_true rfl) (Nat.le_of_ble_eq_true rfl) ?_
    refine sw_iadd dX4_readNumber_36 ?_
    refine sw_bipush (v := 48) dX4_readNumber_37 (by decide) ?_
    refine sw_isub dX4_readNumber_39 ?_
    refine sw_istore_n dX4_readNumber_40 (by decide) rfl ?_
    refine sw_aload_n dX4_readNumber_41 rfl ?_
    refine sw_dup dX4_readNumber_42 rfl ?_
    refine sw_getI dX4_readNumber_43 fl_X4_33 rfl rfl ?_
    refine sw_iconst (v := 1) dX4_readNumber_46 (by decide) ?_
    refine sw_iadd dX4_readNumber_47 ?_
    refine sw_put dX4_readNumber_48 fl_X4_33 fi_3_3 rfl rfl ?_
    refine sw_st (σ2 := x_inc _) rfl ?_
    refine sw_iinc (v := 1) dX4_readNumber_51 rfl (by decide) (by decide) rfl ?_
    refine sw_goto (tgt := 5) dX4_readNumber_54 (by decide) ?_
    refine sw_iload_n dX4_readNumber_5 rfl ?_
    refine sw_iconst (v := 2) dX4_readNumber_6 (by decide) ?_
    refine sw_icmp_ge (tgt := 57) dX4_readNumber_7 (by decide) (fun h => absurd h (by decide)) (fun _ => ?_)
    refine sw_aload_n dX4_readNumber_10 rfl ?_
    refine sw_callV dX4_readNumber_11 lV_X4_40 (c_here) rfl rfl rfl rfl (Nat.le_of_ble_eq_true rfl) (Nat.le_of_ble_eq_true rfl) ?_
    refine sw_bipush (v := 48) dX4_readNumber_14 (by decide) ?_
    refine sw_bipush (v := 57) dX4_readNumber_16 (by decide) ?_
    refine sw_callN dX4_readNumber_18 lN_X4_65 (c_within _ _ _) (fun h => h.2.2.2.1) rfl rfl (Nat.le_of_ble_eq_true rfl) (Nat.le_of_ble_eq_true rfl) ?_
    refine sw_if_eq (tgt := 57) dX4_readNumber_21 (by decide) (fun h21 => ?_) (fun h21 => ?_)
    · refine sw_iload_n dX4_readNumber_57 rfl ?_
      refine sw_iret dX4_readNumber_58 rfl rfl ?_ ?_
      all_goals (first | with_reducible rfl | (simp_all [x_num, x_mx, sm_b_e0]))
    · refine sw_iconst (v := 0) dX4_readNumber_24 (by decide) ?_
      refine sw_iload_n dX4_readNumber_25 rfl ?_
      refine sw_max dX4_readNumber_26 lJ_X4_69 (Nat.le_of_ble_eq_true rfl) (Nat.le_of_ble_eq_true rfl) ?_
      refine sw_bipush (v := 10) dX4_readNumber_29 (by decide) ?_
      refine sw_imul dX4_readNumber_31 ?_
      refine sw_aload_n dX4_readNumber_32 rfl ?_
      refine sw_callV dX4_readNumber_33 lV_X4_40 (c_here) rfl rfl rfl rfl (Nat.le_of_ble_eq_true rfl) (Nat.le_of_ble_eq_true rfl) ?_
      refine sw_iadd dX4_readNumber_36 ?_
      refine sw_bipush (v := 48) dX4_readNumber_37 (by decide) ?_
      refine sw_isub dX4_readNumber_39 ?_
      refine sw_istore_n dX4_readNumber_40 (by decide) rfl ?_
      refine sw_aload_n dX4_readNumber_41 rfl ?_
      refine sw_dup dX4_readNumber_42 rfl ?_
      refine sw_getI dX4_readNumber_43 fl_X4_33 rfl rfl ?_
      refine sw_iconst (v := 1) dX4_readNumber_46 (by decide) ?_
      refine sw_iadd dX4_readNumber_47 ?_
      refine sw_put dX4_readNumber_48 fl_X4_33 fi_3_3 rfl rfl ?_
      refine sw_st (σ2 := x_inc _) rfl ?_
      refine sw_iinc (v := 2) dX4_readNumber_51 rfl (by decide) (by decide) rfl ?_
      refine sw_goto (tgt := 5) dX4_readNumber_54 (by decide) ?_
      refine sw_iload_n dX4_readNumber_5 rfl ?_
      refine sw_iconst (v := 2) dX4_readNumber_6 (by decide) ?_
      refine sw_icmp_ge (tgt := 57) dX4_readNumber_7 (by decide) (fun _ => ?_) (fun h => absurd (by decide) h)
      refine sw_iload_n dX4_readNumber_57 rfl ?_
      refine sw_iret dX4_readNumber_58 rfl rfl ?_ ?_
      all_goals (first | with_reducible rfl | (simp_all [x_num, x_mx, sm_b_e0]))

set_option maxHeartbeats 4000000 in
theorem c_tellShip {σ : sm_St} {k : Nat} (hk : sm_isF k) (a b c : Int32) : sm_C yX4_tellShip cX4_tellShip 4 (some .boolean) 2 [.ref k, .int a, .int b, .int c] σ (some (.int (t_ship σ k a b c).1)) (t_ship σ k a b c).2 := by
  refine sm_C.of (own := RX4) (by decide) rfl (Nat.le_of_ble_eq_true rfl) ?_
  show sm_W RX4 cX4_tellShip 4 (some .boolean) 2 (some (.int (t_ship σ k a b c).1)) (t_ship σ k a b c).2 0 [(0, .ref k), (1, .int a), (2, .int b), (3, .int c)] [] σ
  refine sw_iload_n dX4_tellShip_0 rfl ?_
  refine sw_iload_n dX4_tellShip_1 rfl ?_
  refine sw_callN dX4_tellShip_2 lN_X4_75 (c_isCell _ _) (fun h => h.2.2.2.2) rfl rfl (Nat.le_of_ble_eq_true rfl) (Nat.le_of_ble_eq_true rfl) ?_
  refine sw_if_eq (tgt := 14) dX4_tellShip_5 (by decide) (fun h5 => ?_) (fun h5 => ?_)
  · refine sw_iconst (v := 0) dX4_tellShip_14 (by decide) ?_
    refine sw_zret dX4_tellShip_15 rfl rfl ?_ (by decide) ?_
    all_goals (first | with_reducible rfl | (simp_all [-Int32.not_lt, -Int32.not_le, t_ship, sm_b_e0]))
  · refine sw_iload_n dX4_tellShip_8 rfl ?_
    refine sw_bipush (v := 20) dX4_tellShip_9 (by decide) ?_
    refine sw_icmp_le (tgt := 16) dX4_tellShip_11 (by decide) (fun h11 => ?_) (fun h11 => ?_)
    · refine sw_aload_n dX4_tellShip_16 rfl ?_
      refine sw_iload_n dX4_tellShip_17 rfl ?_
      refine sw_iload_n dX4_tellShip_18 rfl ?_
      refine sw_callV dX4_tellShip_19 lV_X4_79 (c_moveShip (k := k) hk _ _) (sm_Fo hk) rfl rfl rfl (Nat.le_of_ble_eq_true rfl) (Nat.le_of_ble_eq_true rfl) ?_
      refine sw_aload_n dX4_tellShip_22 rfl ?_
      refine sw_iload_n dX4_tellShip_23 rfl ?_
      refine sw_put dX4_tellShip_24 fl_X4_83 fi_0_2 (sm_Fo hk) rfl ?_
      refine sw_iconst (v := 1) dX4_tellShip_27 (by decide) ?_
      refine sw_zret dX4_tellShip_28 rfl rfl ?_ (by decide) ?_
      all_goals (first | with_reducible rfl | (simp_all [-Int32.not_lt, -Int32.not_le, t_ship, sm_b_e0]))
    · refine sw_iconst (v := 0) dX4_tellShip_14 (by decide) ?_
      refine sw_zret dX4_tellShip_15 rfl rfl ?_ (by decide) ?_
      all_goals (first | with_reducible rfl | (simp_all [-Int32.not_lt, -Int32.not_le, t_ship, sm_b_e0]))

set_option maxHeartbeats 4000000 in
theorem c_tellWind {σ : sm_St} {k : Nat} (hk : sm_isF k) (a b : Int32) : sm_C yX4_tellWind cX4_tellWind 3 (some .boolean) 2 [.ref k, .int a, .int b] σ (some (.int (t_wind σ k a b).1)) (t_wind σ k a b).2 := by
  refine sm_C.of (own := RX4) (by decide) rfl (Nat.le_of_ble_eq_true rfl) ?_
  show sm_W RX4 cX4_tellWind 3 (some .boolean) 2 (some (.int (t_wind σ k a b).1)) (t_wind σ k a b).2 0 [(0, .ref k), (1, .int a), (2, .int b)] [] σ
  refine sw_iload_n dX4_tellWind_0 rfl ?_
  refine sw_iconst (v := 4) dX4_tellWind_1 (by decide) ?_
  refine sw_icmp_gt (tgt := 11) dX4_tellWind_2 (by decide) (fun h2 => ?_) (fun h2 => ?_)
  · refine sw_iconst (v := 0) dX4_tellWind_11 (by decide) ?_
    refine sw_zret dX4_tellWind_12 rfl rfl ?_ (by decide) ?_
    all_goals (first | with_reducible rfl | (simp_all [-Int32.not_lt, -Int32.not_le, t_wind, sm_b_e0]))
  · refine sw_iload_n dX4_tellWind_5 rfl ?_
    refine sw_bipush (v := 20) dX4_tellWind_6 (by decide) ?_
    refine sw_icmp_le (tgt := 13) dX4_tellWind_8 (by decide) (fun h8 => ?_) (fun h8 => ?_)
    · refine sw_aload_n dX4_tellWind_13 rfl ?_
      refine sw_iload_n dX4_tellWind_14 rfl ?_
      refine sw_put dX4_tellWind_15 fl_X4_86 fi_0_3 (sm_Fo hk) rfl ?_
      refine sw_aload_n dX4_tellWind_18 rfl ?_
      refine sw_iload_n dX4_tellWind_19 rfl ?_
      refine sw_put dX4_tellWind_20 fl_X4_89 fi_0_4 (sm_Fo hk) rfl ?_
      refine sw_iconst (v := 1) dX4_tellWind_23 (by decide) ?_
      refine sw_zret dX4_tellWind_24 rfl rfl ?_ (by decide) ?_
      all_goals (first | with_reducible rfl | (simp_all [-Int32.not_lt, -Int32.not_le, t_wind, sm_b_e0]))
    · refine sw_iconst (v := 0) dX4_tellWind_11 (by decide) ?_
      refine sw_zret dX4_tellWind_12 rfl rfl ?_ (by decide) ?_
      all_goals (first | with_reducible rfl | (simp_all [-Int32.not_lt, -Int32.not_le, t_wind, sm_b_e0]))

set_option maxHeartbeats 4000000 in
theorem c_tellPost {σ : sm_St} {k : Nat} (hk : sm_isF k) (a b c : Int32) : sm_C yX4_tellPost cX4_tellPost 4 (some .boolean) 4 [.ref k, .int a, .int b, .int c] σ (some (.int (t_post σ k a b c).1)) (t_post σ k a b c).2 := by
  refine sm_C.of (own := RX4) (by decide) rfl (Nat.le_of_ble_eq_true rfl) ?_
  show sm_W RX4 cX4_tellPost 4 (some .boolean) 4 (some (.int (t_post σ k a b c).1)) (t_post σ k a b c).2 0 [(0, .ref k), (1, .int a), (2, .int b), (3, .int c)] [] σ
  refine sw_aload_n dX4_tellPost_0 rfl ?_
  refine sw_getI dX4_tellPost_1 fl_X4_92 (sm_Fo hk) rfl ?_
  refine sw_iconst (v := 5) dX4_tellPost_4 (by decide) ?_
  refine sw_icmp_ge (tgt := 21) dX4_tellPost_5 (by decide) (fun h5 => ?_) (fun h5 => ?_)
  · refine sw_iconst (v := 0) dX4_tellPost_21 (by decide) ?_
    refine sw_zret dX4_tellPost_22 rfl rfl ?_ (by decide) ?_
    all_goals (first | with_reducible rfl | (simp_all [-Int32.not_lt, -Int32.not_le, t_post, sm_b_e0]))
  · refine sw_iload_n dX4_tellPost_8 rfl ?_
    refine sw_iload_n dX4_tellPost_9 rfl ?_
    refine sw_callN dX4_tellPost_10 lN_X4_75 (c_isCell _ _) (fun h => h.2.2.2.2) rfl rfl (Nat.le_of_ble_eq_true rfl) (Nat.le_of_ble_eq_true rfl) ?_
    refine sw_if_eq (tgt := 21) dX4_tellPost_13 (by decide) (fun h13 => ?_) (fun h13 => ?_)
    · refine sw_iconst (v := 0) dX4_tellPost_21 (by decide) ?_
      refine sw_zret dX4_tellPost_22 rfl rfl ?_ (by decide) ?_
      all_goals (first | with_reducible rfl | (simp_all [-Int32.not_lt, -Int32.not_le, t_post, sm_b_e0]))
    · refine sw_iload_n dX4_tellPost_16 rfl ?_
      refine sw_iconst (v := 5) dX4_tellPost_17 (by decide) ?_
      refine sw_icmp_le (tgt := 23) dX4_tellPost_18 (by decide) (fun h18 => ?_) (fun h18 => ?_)
      · refine sw_aload_n dX4_tellPost_23 rfl ?_
        refine sw_iload_n dX4_tellPost_24 rfl ?_
        refine sw_iload_n dX4_tellPost_25 rfl ?_
        refine sw_iload_n dX4_tellPost_26 rfl ?_
        refine sw_callV dX4_tellPost_27 lV_X4_95 (c_addPost (k := k) hk _ _ _) (sm_Fo hk) rfl rfl rfl (Nat.le_of_ble_eq_true rfl) (Nat.le_of_ble_eq_true rfl) ?_
        refine sw_iconst (v := 1) dX4_tellPost_30 (by decide) ?_
        refine sw_zret dX4_tellPost_31 rfl rfl ?_ (by decide) ?_
        all_goals (first | with_reducible rfl | (simp_all [-Int32.not_lt, -Int32.not_le, t_post, sm_b_e0]))
      · refine sw_iconst (v := 0) dX4_tellPost_21 (by decide) ?_
        refine sw_zret dX4_tellPost_22 rfl rfl ?_ (by decide) ?_
        all_goals (first | with_reducible rfl | (simp_all [-Int32.not_lt, -Int32.not_le, t_post, sm_b_e0]))

set_option maxHeartbeats 4000000 in
theorem c_tellSailor {σ : sm_St} {k : Nat} (hk : sm_isF k) (a b c : Int32) : sm_C yX4_tellSailor cX4_tellSailor 4 (some .boolean) 4 [.ref k, .int a, .int b, .int c] σ (some (.int (t_one σ k a b c).1)) (t_one σ k a b c).2 := by
  refine sm_C.of (own := RX4) (by decide) rfl (Nat.le_of_ble_eq_true rfl) ?_
  show sm_W RX4 cX4_tellSailor 4 (some .boolean) 4 (some (.int (t_one σ k a b c).1)) (t_one σ k a b c).2 0 [(0, .ref k), (1, .int a), (2, .int b), (3, .int c)] [] σ
  refine sw_aload_n dX4_tellSailor_0 rfl ?_
  refine sw_getI dX4_tellSailor_1 fl_X4_99 (sm_Fo hk) rfl ?_
  refine sw_bipush (v := 7) dX4_tellSailor_4 (by decide) ?_
  refine sw_icmp_ge (tgt := 29) dX4_tellSailor_6 (by decide) (fun h6 => ?_) (fun h6 => ?_)
  · refine sw_iconst (v := 0) dX4_tellSailor_29 (by decide) ?_
    refine sw_zret dX4_tellSailor_30 rfl rfl ?_ (by decide) ?_
    all_goals (first | with_reducible rfl | (simp_all [-Int32.not_lt, -Int32.not_le, t_one, sm_b_e0]))
  · refine sw_iload_n dX4_tellSailor_9 rfl ?_
    refine sw_iconst (v := 3) dX4_tellSailor_10 (by decide) ?_
    refine sw_icmp_gt (tgt := 29) dX4_tellSailor_11 (by decide) (fun h11 => ?_) (fun h11 => ?_)
    · refine sw_iconst (v := 0) dX4_tellSailor_29 (by decide) ?_
      refine sw_zret dX4_tellSailor_30 rfl rfl ?_ (by decide) ?_
      all_goals (first | with_reducible rfl | (simp_all [-Int32.not_lt, -Int32.not_le, t_one, sm_b_e0]))
    · refine sw_iload_n dX4_tellSailor_14 rfl ?_
      refine sw_iconst (v := 5) dX4_tellSailor_15 (by decide) ?_
      refine sw_icmp_gt (tgt := 29) dX4_tellSailor_16 (by decide) (fun h16 => ?_) (fun h16 => ?_)
      · refine sw_iconst (v := 0) dX4_tellSailor_29 (by decide) ?_
        refine sw_zret dX4_tellSailor_30 rfl rfl ?_ (by decide) ?_
        all_goals (first | with_reducible rfl | (simp_all [-Int32.not_lt, -Int32.not_le, t_one, sm_b_e0]))
      · refine sw_iload_n dX4_tellSailor_19 rfl ?_
        refine sw_iconst (v := 1) dX4_tellSailor_20 (by decide) ?_
        refine sw_bipush (v := 9) dX4_tellSailor_21 (by decide) ?_
        refine sw_callN dX4_tellSailor_23 lN_X4_65 (c_within _ _ _) (fun h => h.2.2.2.1) rfl rfl (Nat.le_of_ble_eq_true rfl) (Nat.le_of_ble_eq_true rfl) ?_
        refine sw_if_ne (tgt := 31) dX4_tellSailor_26 (by decide) (fun h26 => ?_) (fun h26 => ?_)
        · refine sw_aload_n dX4_tellSailor_31 rfl ?_
          refine sw_iload_n dX4_tellSailor_32 rfl ?_
          refine sw_iload_n dX4_tellSailor_33 rfl ?_
          refine sw_iload_n dX4_tellSailor_34 rfl ?_
          refine sw_callV dX4_tellSailor_35 lV_X4_102 (c_addSailor (k := k) hk _ _ _) (sm_Fo hk) rfl rfl rfl (Nat.le_of_ble_eq_true rfl) (Nat.le_of_ble_eq_true rfl) ?_
          refine sw_iconst (v := 1) dX4_tellSailor_38 (by decide) ?_
          refine sw_zret dX4_tellSailor_39 rfl rfl ?_ (by decide) ?_
          all_goals (first | with_reducible rfl | (simp_all [-Int32.not_lt, -Int32.not_le, t_one, sm_b_e0]))
        · refine sw_iconst (v := 0) dX4_tellSailor_29 (by decide) ?_
          refine sw_zret dX4_tellSailor_30 rfl rfl ?_ (by decide) ?_
          all_goals (first | with_reducible rfl | (simp_all [-Int32.not_lt, -Int32.not_le, t_one, sm_b_e0]))

theorem sw_lk_item {nL d : Nat} {ret : Option FieldType} {r : Option Value} {σ' σ : sm_St} {lv : List (Nat × Value)} {st : List Value} {x : Int32} (k1 : x = 115 → sm_W RX4 cX4_readItem nL ret d r σ' 172 lv st σ) (k2 : x = 119 → sm_W RX4 cX4_readItem nL ret d r σ' 183 lv st σ) (k3 : x = 112 → sm_W RX4 cX4_readItem nL ret d r σ' 192 lv st σ) (k4 : x = 99 → sm_W RX4 cX4_readItem nL ret d r σ' 203 lv st σ) (kd : ¬ x = 115 → ¬ x = 119 → ¬ x = 112 → ¬ x = 99 → sm_W RX4 cX4_readItem nL ret d r σ' 214 lv st σ) : sm_W RX4 cX4_readItem nL ret d r σ' 129 lv (.int x :: st) σ := by
  by_cases h1 : x = 115
  · subst h1; exact sw_lookup (off := 43) dX4_readItem_129 (by decide) (by decide) (by decide) (k1 rfl)
  by_cases h2 : x = 119
  · subst h2; exact sw_lookup (off := 54) dX4_readItem_129 (by decide) (by decide) (by decide) (k2 rfl)
  by_cases h3 : x = 112
  · subst h3; exact sw_lookup (off := 63) dX4_readItem_129 (by decide) (by decide) (by decide) (k3 rfl)
  by_cases h4 : x = 99
  · subst h4; exact sw_lookup (off := 74) dX4_readItem_129 (by decide) (by decide) (by decide) (k4 rfl)
  have e1 : x.toInt ≠ 115 := fun e => h1 (Int32.toInt_inj.mp e)
  have e2 : x.toInt ≠ 119 := fun e => h2 (Int32.toInt_inj.mp e)
  have e3 : x.toInt ≠ 112 := fun e => h3 (Int32.toInt_inj.mp e)
  have e4 : x.toInt ≠ 99 := fun e => h4 (Int32.toInt_inj.mp e)
  refine sw_lookup (off := 85) (tgt := 214) dX4_readItem_129 (by decide) ?_ (by decide) (kd h1 h2 h3 h4)
  simp [Op.lookupswitch.offset, e1, e2, e3, e4, Ne.symm e1, Ne.symm e2, Ne.symm e3, Ne.symm e4]

set_option maxHeartbeats 4000000 in
theorem c_readItem {σ : sm_St} {k : Nat} (hk : sm_isF k) : sm_C yX4_readItem cX4_readItem 7 (some .boolean) 5 [.ref 97, .ref k] σ (some (.int (x_item σ k).1)) (x_item σ k).2 := by
  refine sm_C.of (own := RX4) (by decide) rfl (Nat.le_of_ble_eq_true rfl) ?_
  show sm_W RX4 cX4_readItem 7 (some .boolean) 5 (some (.int (x_item σ k).1)) (x_item σ k).2 0 [(0, .ref 97), (1, .ref k)] [] σ
  refine sw_aload_n dX4_readItem_0 rfl ?_
  refine sw_callV dX4_readItem_1 lV_X4_40 (c_here) rfl rfl rfl rfl (Nat.le_of_ble_eq_true rfl) (Nat.le_of_ble_eq_true rfl) ?_
  refine sw_istore_n dX4_readItem_4 (by decide) rfl ?_
  refine sw_iload_n dX4_readItem_5 rfl ?_
  refine sw_bipush (v := 119) dX4_readItem_6 (by decide) ?_
  refine sw_icmp_ne (tgt := 15) dX4_readItem_8 (by decide) (fun h8 => ?_) (fun h8 => ?_)
  · refine sw_iconst (v := 3) dX4_readItem_15 (by decide) ?_
    refine sw_istore_n dX4_readItem_16 (by decide) rfl ?_
    refine sw_aload_n dX4_readItem_17 rfl ?_
    refine sw_dup dX4_readItem_18 rfl ?_
    refine sw_getI dX4_readItem_19 fl_X4_33 rfl rfl ?_
    refine sw_iconst (v := 1) dX4_readItem_22 (by decide) ?_
    refine sw_iadd dX4_readItem_23 ?_
    refine sw_put dX4_readItem_24 fl_X4_33 fi_3_3 rfl rfl ?_
    refine sw_st (σ2 := x_inc _) rfl ?_
    refine sw_iconst (v := 0) dX4_readItem_27 (by decide) ?_
    refine sw_istore dX4_readItem_28 (by decide) rfl ?_
    refine sw_iload dX4_readItem_30 rfl ?_
    refine sw_iload_n dX4_readItem_32 rfl ?_
    refine sw_icmp_ge (tgt := 98) dX4_readItem_33 (by decide) (fun h => absurd h (by decide)) (fun _ => ?_)
    refine sw_aload_n dX4_readItem_36 rfl ?_
    refine sw_callV dX4_readItem_37 lV_X4_44 (c_readNumber) rfl rfl rfl rfl (Nat.le_of_ble_eq_true rfl) (Nat.le_of_ble_eq_true rfl) ?_
    refine sw_istore dX4_readItem_40 (by decide) rfl ?_
    refine sw_iload dX4_readItem_42 rfl ?_
    refine sw_if_lt (tgt := 69) dX4_readItem_44 (by decide) (fun h44 => ?_) (fun h44 => ?_)
    · refine sw_iconst (v := 0) dX4_readItem_69 (by decide) ?_
      refine sw_zret dX4_readItem_70 rfl rfl ?_ (by decide) ?_
      all_goals (first | with_reducible rfl | (simp_all [-Int32.not_lt, -Int32.not_le, x_item, x_nums, x_two, x_three, x_one, x_tell]))
    · refine sw_aload_n dX4_readItem_47 rfl ?_
      refine sw_callV dX4_readItem_48 lV_X4_40 (c_here) rfl rfl rfl rfl (Nat.le_of_ble_eq_true rfl) (Nat.le_of_ble_eq_true rfl) ?_
      refine sw_iload dX4_readItem_51 rfl ?_
      refine sw_iload_n dX4_readItem_53 rfl ?_
      refine sw_iconst (v := 1) dX4_readItem_54 (by decide) ?_
      refine sw_isub dX4_readItem_55 ?_
      refine sw_icmp_ge (tgt := 64) dX4_readItem_56 (by decide) (fun h => absurd h (by decide)) (fun _ => ?_)
      refine sw_bipush (v := 44) dX4_readItem_59 (by decide) ?_
      refine sw_goto (tgt := 66) dX4_readItem_61 (by decide) ?_
      refine sw_icmp_eq (tgt := 71) dX4_readItem_66 (by decide) (fun h66 => ?_) (fun h66 => ?_)
      · refine sw_aload_n dX4_readItem_71 rfl ?_
        refine sw_getR (j := 99) dX4_readItem_72 fl_X4_15 rfl rfl ?_
        refine sw_iload dX4_readItem_75 rfl ?_
        refine sw_iload dX4_readItem_77 rfl ?_
        refine sw_callS dX4_readItem_79 lS_X4_22 (c_set (k := 99) rfl _ _) rfl rfl (Nat.le_of_ble_eq_true rfl) (Nat.le_of_ble_eq_true rfl) ?_
        refine sw_aload_n dX4_readItem_82 rfl ?_
        refine sw_dup dX4_readItem_83 rfl ?_
        refine sw_getI dX4_readItem_84 fl_X4_33 rfl rfl ?_
        refine sw_iconst (v := 1) dX4_readItem_87 (by decide) ?_
        refine sw_iadd dX4_readItem_88 ?_
        refine sw_put dX4_readItem_89 fl_X4_33 fi_3_3 rfl rfl ?_
        refine sw_st (σ2 := x_inc _) rfl ?_
        refine sw_iinc (v := 1) dX4_readItem_92 rfl (by decide) (by decide) rfl ?_
        refine sw_goto (tgt := 30) dX4_readItem_95 (by decide) ?_
        refine sw_iload dX4_readItem_30 rfl ?_
        refine sw_iload_n dX4_readItem_32 rfl ?_
        refine sw_icmp_ge (tgt := 98) dX4_readItem_33 (by decide) (fun h => absurd h (by decide)) (fun _ => ?_)
        refine sw_aload_n dX4_readItem_36 rfl ?_
        refine sw_callV dX4_readItem_37 lV_X4_44 (c_readNumber) rfl rfl rfl rfl (Nat.le_of_ble_eq_true rfl) (Nat.le_of_ble_eq_true rfl) ?_
        refine sw_istore dX4_readItem_40 (by decide) rfl ?_
        refine sw_iload dX4_readItem_42 rfl ?_
        refine sw_if_lt (tgt := 69) dX4_readItem_44 (by decide) (fun h44 => ?_) (fun h44 => ?_)
        · refine sw_iconst (v := 0) dX4_readItem_69 (by decide) ?_
          refine sw_zret dX4_readItem_70 rfl rfl ?_ (by decide) ?_
          all_goals (first | with_reducible rfl | (simp_all [-Int32.not_lt, -Int32.not_le, x_item, x_nums, x_two, x_three, x_one, x_tell]))
        · refine sw_aload_n dX4_readItem_47 rfl ?_
          refine sw_callV dX4_readItem_48 lV_X4_40 (c_here) rfl rfl rfl rfl (Nat.le_of_ble_eq_true rfl) (Nat.le_of_ble_eq_true rfl) ?_
          refine sw_iload dX4_readItem_51 rfl ?_
          refine sw_iload_n dX4_readItem_53 rfl ?_
          refine sw_iconst (v := 1) dX4_readItem_54 (by decide) ?_
          refine sw_isub dX4_readItem_55 ?_
          refine sw_icmp_ge (tgt := 64) dX4_readItem_56 (by decide) (fun h => absurd h (by decide)) (fun _ => ?_)
          refine sw_bipush (v := 44) dX4_readItem_59 (by decide) ?_
          refine sw_goto (tgt := 66) dX4_readItem_61 (by decide) ?_
          refine sw_icmp_eq (tgt := 71) dX4_readItem_66 (by decide) (fun h66 => ?_) (fun h66 => ?_)
          · refine sw_aload_n dX4_readItem_71 rfl ?_
            refine sw_getR (j := 99) dX4_readItem_72 fl_X4_15 rfl rfl ?_
            refine sw_iload dX4_readItem_75 rfl ?_
            refine sw_iload dX4_readItem_77 rfl ?_
            refine sw_callS dX4_readItem_79 lS_X4_22 (c_set (k := 99) rfl _ _) rfl rfl (Nat.le_of_ble_eq_true rfl) (Nat.le_of_ble_eq_true rfl) ?_
            refine sw_aload_n dX4_readItem_82 rfl ?_
            refine sw_dup dX4_readItem_83 rfl ?_
            refine sw_getI dX4_readItem_84 fl_X4_33 rfl rfl ?_
            refine sw_iconst (v := 1) dX4_readItem_87 (by decide) ?_
            refine sw_iadd dX4_readItem_88 ?_
            refine sw_put dX4_readItem_89 fl_X4_33 fi_3_3 rfl rfl ?_
            refine sw_st (σ2 := x_inc _) rfl ?_
            refine sw_iinc (v := 2) dX4_readItem_92 rfl (by decide) (by decide) rfl ?_
            refine sw_goto (tgt := 30) dX4_readItem_95 (by decide) ?_
            refine sw_iload dX4_readItem_30 rfl ?_
            refine sw_iload_n dX4_readItem_32 rfl ?_
            refine sw_icmp_ge (tgt := 98) dX4_readItem_33 (by decide) (fun h => absurd h (by decide)) (fun _ => ?_)
            refine sw_aload_n dX4_readItem_36 rfl ?_
            refine sw_callV dX4_readItem_37 lV_X4_44 (c_readNumber) rfl rfl rfl rfl (Nat.le_of_ble_eq_true rfl) (Nat.le_of_ble_eq_true rfl) ?_
            refine sw_istore dX4_readItem_40 (by decide) rfl ?_
            refine sw_iload dX4_readItem_42 rfl ?_
            refine sw_if_lt (tgt := 69) dX4_readItem_44 (by decide) (fun h44 => ?_) (fun h44 => ?_)
            · refine sw_iconst (v := 0) dX4_readItem_69 (by decide) ?_
              refine sw_zret dX4_readItem_70 rfl rfl ?_ (by decide) ?_
              all_goals (first | with_reducible rfl | (simp_all [-Int32.not_lt, -Int32.not_le, x_item, x_nums, x_two, x_three, x_one, x_tell]))
            · refine sw_aload_n dX4_readItem_47 rfl ?_
              refine sw_callV dX4_readItem_48 lV_X4_40 (c_here) rfl rfl rfl rfl (Nat.le_of_ble_eq_true rfl) (Nat.le_of_ble_eq_true rfl) ?_
              refine sw_iload dX4_readItem_51 rfl ?_
              refine sw_iload_n dX4_readItem_53 rfl ?_
              refine sw_iconst (v := 1) dX4_readItem_54 (by decide) ?_
              refine sw_isub dX4_readItem_55 ?_
              refine sw_icmp_ge (tgt := 64) dX4_readItem_56 (by decide) (fun _ => ?_) (fun h => absurd (by decide) h)
              refine sw_bipush (v := 59) dX4_readItem_64 (by decide) ?_
              refine sw_icmp_eq (tgt := 71) dX4_readItem_66 (by decide) (fun h66 => ?_) (fun h66 => ?_)
              · refine sw_aload_n dX4_readItem_71 rfl ?_
                refine sw_getR (j := 99) dX4_readItem_72 fl_X4_15 rfl rfl ?_
                refine sw_iload dX4_readItem_75 rfl ?_
                refine sw_iload dX4_readItem_77 rfl ?_
                refine sw_callS dX4_readItem_79 lS_X4_22 (c_set (k := 99) rfl _ _) rfl rfl (Nat.le_of_ble_eq_true rfl) (Nat.le_of_ble_eq_true rfl) ?_
                refine sw_aload_n dX4_readItem_82 rfl ?_
                refine sw_dup dX4_readItem_83 rfl ?_
                refine sw_getI dX4_readItem_84 fl_X4_33 rfl rfl ?_
                refine sw_iconst (v := 1) dX4_readItem_87 (by decide) ?_
                refine sw_iadd dX4_readItem_88 ?_
                refine sw_put dX4_readItem_89 fl_X4_33 fi_3_3 rfl rfl ?_
                refine sw_st (σ2 := x_inc _) rfl ?_
                refine sw_iinc (v := 3) dX4_readItem_92 rfl (by decide) (by decide) rfl ?_
                refine sw_goto (tgt := 30) dX4_readItem_95 (by decide) ?_
                refine sw_iload dX4_readItem_30 rfl ?_
                refine sw_iload_n dX4_readItem_32 rfl ?_
                refine sw_icmp_ge (tgt := 98) dX4_readItem_33 (by decide) (fun _ => ?_) (fun h => absurd (by decide) h)
                refine sw_aload_n dX4_readItem_98 rfl ?_
                refine sw_getR (j := 99) dX4_readItem_99 fl_X4_15 rfl rfl ?_
                refine sw_iconst (v := 0) dX4_readItem_102 (by decide) ?_
                refine sw_callS dX4_readItem_103 lS_X4_47 (c_at (k := 99) rfl _) rfl rfl (Nat.le_of_ble_eq_true rfl) (Nat.le_of_ble_eq_true rfl) ?_
                refine sw_istore dX4_readItem_106 (by decide) rfl ?_
                refine sw_aload_n dX4_readItem_108 rfl ?_
                refine sw_getR (j := 99) dX4_readItem_109 fl_X4_15 rfl rfl ?_
                refine sw_iconst (v := 1) dX4_readItem_112 (by decide) ?_
                refine sw_callS dX4_readItem_113 lS_X4_47 (c_at (k := 99) rfl _) rfl rfl (Nat.le_of_ble_eq_true rfl) (Nat.le_of_ble_eq_true rfl) ?_
                refine sw_istore dX4_readItem_116 (by decide) rfl ?_
                refine sw_aload_n dX4_readItem_118 rfl ?_
                refine sw_getR (j := 99) dX4_readItem_119 fl_X4_15 rfl rfl ?_
                refine sw_iconst (v := 2) dX4_readItem_122 (by decide) ?_
                refine sw_callS dX4_readItem_123 lS_X4_47 (c_at (k := 99) rfl _) rfl rfl (Nat.le_of_ble_eq_true rfl) (Nat.le_of_ble_eq_true rfl) ?_
                refine sw_istore dX4_readItem_126 (by decide) rfl ?_
                refine sw_iload_n dX4_readItem_128 rfl ?_
                refine sw_lk_item (fun h129 => ?_) (fun h129 => ?_) (fun h129 => ?_) (fun h129 => ?_) (fun n1 n2 n3 n4 => ?_)
                · refine sw_aload_n dX4_readItem_172 rfl ?_
                  refine sw_iload dX4_readItem_173 rfl ?_
                  refine sw_iload dX4_readItem_175 rfl ?_
                  refine sw_iload dX4_readItem_177 rfl ?_
                  refine sw_callS dX4_readItem_179 lS_X4_51 (c_tellShip (k := k) hk _ _ _) rfl rfl (Nat.le_of_ble_eq_true rfl) (Nat.le_of_ble_eq_true rfl) ?_
                  refine sw_zret dX4_readItem_182 rfl rfl ?_ t_b01.1 ?_
                  all_goals (first | with_reducible rfl | (simp_all [-Int32.not_lt, -Int32.not_le, x_item, x_nums, x_two, x_three, x_one, x_tell]))
                · refine sw_aload_n dX4_readItem_183 rfl ?_
                  refine sw_iload dX4_readItem_184 rfl ?_
                  refine sw_iload dX4_readItem_186 rfl ?_
                  refine sw_callS dX4_readItem_188 lS_X4_55 (c_tellWind (k := k) hk _ _) rfl rfl (Nat.le_of_ble_eq_true rfl) (Nat.le_of_ble_eq_true rfl) ?_
                  refine sw_zret dX4_readItem_191 rfl rfl ?_ (t_b01 (c := 0)).2.1 ?_
                  all_goals (first | with_reducible rfl | (simp_all [-Int32.not_lt, -Int32.not_le, x_item, x_nums, x_two, x_three, x_one, x_tell]))
                · refine sw_aload_n dX4_readItem_192 rfl ?_
                  refine sw_iload dX4_readItem_193 rfl ?_
                  refine sw_iload dX4_readItem_195 rfl ?_
                  refine sw_iload dX4_readItem_197 rfl ?_
                  refine sw_callS dX4_readItem_199 lS_X4_59 (c_tellPost (k := k) hk _ _ _) rfl rfl (Nat.le_of_ble_eq_true rfl) (Nat.le_of_ble_eq_true rfl) ?_
                  refine sw_zret dX4_readItem_202 rfl rfl ?_ t_b01.2.2.1 ?_
                  all_goals (first | with_reducible rfl | (simp_all [-Int32.not_lt, -Int32.not_le, x_item, x_nums, x_two, x_three, x_one, x_tell]))
                · refine sw_aload_n dX4_readItem_203 rfl ?_
                  refine sw_iload dX4_readItem_204 rfl ?_
                  refine sw_iload dX4_readItem_206 rfl ?_
                  refine sw_iload dX4_readItem_208 rfl ?_
                  refine sw_callS dX4_readItem_210 lS_X4_62 (c_tellSailor (k := k) hk _ _ _) rfl rfl (Nat.le_of_ble_eq_true rfl) (Nat.le_of_ble_eq_true rfl) ?_
                  refine sw_zret dX4_readItem_213 rfl rfl ?_ t_b01.2.2.2 ?_
                  all_goals (first | with_reducible rfl | (simp_all [-Int32.not_lt, -Int32.not_le, x_item, x_nums, x_two, x_three, x_one, x_tell]))
                · refine sw_iconst (v := 0) dX4_readItem_214 (by decide) ?_
                  refine sw_zret dX4_readItem_215 rfl rfl ?_ (by decide) ?_
                  all_goals (first | with_reducible rfl | (simp_all [-Int32.not_lt, -Int32.not_le, x_item, x_nums, x_two, x_three, x_one, x_tell]))
              · refine sw_iconst (v := 0) dX4_readItem_69 (by decide) ?_
                refine sw_zret dX4_readItem_70 rfl rfl ?_ (by decide) ?_
                all_goals (first | with_reducible rfl | (simp_all [-Int32.not_lt, -Int32.not_le, x_item, x_nums, x_two, x_three, x_one, x_tell]))
          · refine sw_iconst (v := 0) dX4_readItem_69 (by decide) ?_
            refine sw_zret dX4_readItem_70 rfl rfl ?_ (by decide) ?_
            all_goals (first | with_reducible rfl | (simp_all [-Int32.not_lt, -Int32.not_le, x_item, x_nums, x_two, x_three, x_one, x_tell]))
      · refine sw_iconst (v := 0) dX4_readItem_69 (by decide) ?_
        refine sw_zret dX4_readItem_70 rfl rfl ?_ (by decide) ?_
        all_goals (first | with_reducible rfl | (simp_all [-Int32.not_lt, -Int32.not_le, x_item, x_nums, x_two, x_three, x_one, x_tell]))
  · refine sw_iconst (v := 2) dX4_readItem_11 (by decide) ?_
    refine sw_goto (tgt := 16) dX4_readItem_12 (by decide) ?_
    refine sw_istore_n dX4_readItem_16 (by decide) rfl ?_
    refine sw_aload_n dX4_readItem_17 rfl ?_
    refine sw_dup dX4_readItem_18 rfl ?_
    refine sw_getI dX4_readItem_19 fl_X4_33 rfl rfl ?_
    refine sw_iconst (v := 1) dX4_readItem_22 (by decide) ?_
    refine sw_iadd dX4_readItem_23 ?_
    refine sw_put dX4_readItem_24 fl_X4_33 fi_3_3 rfl rfl ?_
    refine sw_st (σ2 := x_inc _) rfl ?_
    refine sw_iconst (v := 0) dX4_readItem_27 (by decide) ?_
    refine sw_istore dX4_readItem_28 (by decide) rfl ?_
    refine sw_iload dX4_readItem_30 rfl ?_
    refine sw_iload_n dX4_readItem_32 rfl ?_
    refine sw_icmp_ge (tgt := 98) dX4_readItem_33 (by decide) (fun h => absurd h (by decide)) (fun _ => ?_)
    refine sw_aload_n dX4_readItem_36 rfl ?_
    refine sw_callV dX4_readItem_37 lV_X4_44 (c_readNumber) rfl rfl rfl rfl (Nat.le_of_ble_eq_true rfl) (Nat.le_of_ble_eq_true rfl) ?_
    refine sw_istore dX4_readItem_40 (by decide) rfl ?_
    refine sw_iload dX4_readItem_42 rfl ?_
    refine sw_if_lt (tgt := 69) dX4_readItem_44 (by decide) (fun h44 => ?_) (fun h44 => ?_)
    · refine sw_iconst (v := 0) dX4_readItem_69 (by decide) ?_
      refine sw_zret dX4_readItem_70 rfl rfl ?_ (by decide) ?_
      all_goals (first | with_reducible rfl | (simp_all [-Int32.not_lt, -Int32.not_le, x_item, x_nums, x_two, x_three, x_one, x_tell]))
    · refine sw_aload_n dX4_readItem_47 rfl ?_
      refine sw_callV dX4_readItem_48 lV_X4_40 (c_here) rfl rfl rfl rfl (Nat.le_of_ble_eq_true rfl) (Nat.le_of_ble_eq_true rfl) ?_
      refine sw_iload dX4_readItem_51 rfl ?_
      refine sw_iload_n dX4_readItem_53 rfl ?_
      refine sw_iconst (v := 1) dX4_readItem_54 (by decide) ?_
      refine sw_isub dX4_readItem_55 ?_
      refine sw_icmp_ge (tgt := 64) dX4_readItem_56 (by decide) (fun h => absurd h (by decide)) (fun _ => ?_)
      refine sw_bipush (v := 44) dX4_readItem_59 (by decide) ?_
      refine sw_goto (tgt := 66) dX4_readItem_61 (by decide) ?_
      refine sw_icmp_eq (tgt := 71) dX4_readItem_66 (by decide) (fun h66 => ?_) (fun h66 => ?_)
      · refine sw_aload_n dX4_readItem_71 rfl ?_
        refine sw_getR (j := 99) dX4_readItem_72 fl_X4_15 rfl rfl ?_
        refine sw_iload dX4_readItem_75 rfl ?_
        refine sw_iload dX4_readItem_77 rfl ?_
        refine sw_callS dX4_readItem_79 lS_X4_22 (c_set (k := 99) rfl _ _) rfl rfl (Nat.le_of_ble_eq_true rfl) (Nat.le_of_ble_eq_true rfl) ?_
        refine sw_aload_n dX4_readItem_82 rfl ?_
        refine sw_dup dX4_readItem_83 rfl ?_
        refine sw_getI dX4_readItem_84 fl_X4_33 rfl rfl ?_
        refine sw_iconst (v := 1) dX4_readItem_87 (by decide) ?_
        refine sw_iadd dX4_readItem_88 ?_
        refine sw_put dX4_readItem_89 fl_X4_33 fi_3_3 rfl rfl ?_
        refine sw_st (σ2 := x_inc _) rfl ?_
        refine sw_iinc (v := 1) dX4_readItem_92 rfl (by decide) (by decide) rfl ?_
        refine sw_goto (tgt := 30) dX4_readItem_95 (by decide) ?_
        refine sw_iload dX4_readItem_30 rfl ?_
        refine sw_iload_n dX4_readItem_32 rfl ?_
        refine sw_icmp_ge (tgt := 98) dX4_readItem_33 (by decide) (fun h => absurd h (by decide)) (fun _ => ?_)
        refine sw_aload_n dX4_readItem_36 rfl ?_
        refine sw_callV dX4_readItem_37 lV_X4_44 (c_readNumber) rfl rfl rfl rfl (Nat.le_of_ble_eq_true rfl) (Nat.le_of_ble_eq_true rfl) ?_
        refine sw_istore dX4_readItem_40 (by decide) rfl ?_
        refine sw_iload dX4_readItem_42 rfl ?_
        refine sw_if_lt (tgt := 69) dX4_readItem_44 (by decide) (fun h44 => ?_) (fun h44 => ?_)
        · refine sw_iconst (v := 0) dX4_readItem_69 (by decide) ?_
          refine sw_zret dX4_readItem_70 rfl rfl ?_ (by decide) ?_
          all_goals (first | with_reducible rfl | (simp_all [-Int32.not_lt, -Int32.not_le, x_item, x_nums, x_two, x_three, x_one, x_tell]))
        · refine sw_aload_n dX4_readItem_47 rfl ?_
          refine sw_callV dX4_readItem_48 lV_X4_40 (c_here) rfl rfl rfl rfl (Nat.le_of_ble_eq_true rfl) (Nat.le_of_ble_eq_true rfl) ?_
          refine sw_iload dX4_readItem_51 rfl ?_
          refine sw_iload_n dX4_readItem_53 rfl ?_
          refine sw_iconst (v := 1) dX4_readItem_54 (by decide) ?_
          refine sw_isub dX4_readItem_55 ?_
          refine sw_icmp_ge (tgt := 64) dX4_readItem_56 (by decide) (fun _ => ?_) (fun h => absurd (by decide) h)
          refine sw_bipush (v := 59) dX4_readItem_64 (by decide) ?_
          refine sw_icmp_eq (tgt := 71) dX4_readItem_66 (by decide) (fun h66 => ?_) (fun h66 => ?_)
          · refine sw_aload_n dX4_readItem_71 rfl ?_
            refine sw_getR (j := 99) dX4_readItem_72 fl_X4_15 rfl rfl ?_
            refine sw_iload dX4_readItem_75 rfl ?_
            refine sw_iload dX4_readItem_77 rfl ?_
            refine sw_callS dX4_readItem_79 lS_X4_22 (c_set (k := 99) rfl _ _) rfl rfl (Nat.le_of_ble_eq_true rfl) (Nat.le_of_ble_eq_true rfl) ?_
            refine sw_aload_n dX4_readItem_82 rfl ?_
            refine sw_dup dX4_readItem_83 rfl ?_
            refine sw_getI dX4_readItem_84 fl_X4_33 rfl rfl ?_
            refine sw_iconst (v := 1) dX4_readItem_87 (by decide) ?_
            refine sw_iadd dX4_readItem_88 ?_
            refine sw_put dX4_readItem_89 fl_X4_33 fi_3_3 rfl rfl ?_
            refine sw_st (σ2 := x_inc _) rfl ?_
            refine sw_iinc (v := 2) dX4_readItem_92 rfl (by decide) (by decide) rfl ?_
            refine sw_goto (tgt := 30) dX4_readItem_95 (by decide) ?_
            refine sw_iload dX4_readItem_30 rfl ?_
            refine sw_iload_n dX4_readItem_32 rfl ?_
            refine sw_icmp_ge (tgt := 98) dX4_readItem_33 (by decide) (fun _ => ?_) (fun h => absurd (by decide) h)
            refine sw_aload_n dX4_readItem_98 rfl ?_
            refine sw_getR (j := 99) dX4_readItem_99 fl_X4_15 rfl rfl ?_
            refine sw_iconst (v := 0) dX4_readItem_102 (by decide) ?_
            refine sw_callS dX4_readItem_103 lS_X4_47 (c_at (k := 99) rfl _) rfl rfl (Nat.le_of_ble_eq_true rfl) (Nat.le_of_ble_eq_true rfl) ?_
            refine sw_istore dX4_readItem_106 (by decide) rfl ?_
            refine sw_aload_n dX4_readItem_108 rfl ?_
            refine sw_getR (j := 99) dX4_readItem_109 fl_X4_15 rfl rfl ?_
            refine sw_iconst (v := 1) dX4_readItem_112 (by decide) ?_
            refine sw_callS dX4_readItem_113 lS_X4_47 (c_at (k := 99) rfl _) rfl rfl (Nat.le_of_ble_eq_true rfl) (Nat.le_of_ble_eq_true rfl) ?_
            refine sw_istore dX4_readItem_116 (by decide) rfl ?_
            refine sw_aload_n dX4_readItem_118 rfl ?_
            refine sw_getR (j := 99) dX4_readItem_119 fl_X4_15 rfl rfl ?_
            refine sw_iconst (v := 2) dX4_readItem_122 (by decide) ?_
            refine sw_callS dX4_readItem_123 lS_X4_47 (c_at (k := 99) rfl _) rfl rfl (Nat.le_of_ble_eq_true rfl) (Nat.le_of_ble_eq_true rfl) ?_
            refine sw_istore dX4_readItem_126 (by decide) rfl ?_
            refine sw_iload_n dX4_readItem_128 rfl ?_
            refine sw_lk_item (fun h129 => ?_) (fun h129 => ?_) (fun h129 => ?_) (fun h129 => ?_) (fun n1 n2 n3 n4 => ?_)
            · refine sw_aload_n dX4_readItem_172 rfl ?_
              refine sw_iload dX4_readItem_173 rfl ?_
              refine sw_iload dX4_readItem_175 rfl ?_
              refine sw_iload dX4_readItem_177 rfl ?_
              refine sw_callS dX4_readItem_179 lS_X4_51 (c_tellShip (k := k) hk _ _ _) rfl rfl (Nat.le_of_ble_eq_true rfl) (Nat.le_of_ble_eq_true rfl) ?_
              refine sw_zret dX4_readItem_182 rfl rfl ?_ t_b01.1 ?_
              all_goals (first | with_reducible rfl | (simp_all [-Int32.not_lt, -Int32.not_le, x_item, x_nums, x_two, x_three, x_one, x_tell]))
            · refine sw_aload_n dX4_readItem_183 rfl ?_
              refine sw_iload dX4_readItem_184 rfl ?_
              refine sw_iload dX4_readItem_186 rfl ?_
              refine sw_callS dX4_readItem_188 lS_X4_55 (c_tellWind (k := k) hk _ _) rfl rfl (Nat.le_of_ble_eq_true rfl) (Nat.le_of_ble_eq_true rfl) ?_
              refine sw_zret dX4_readItem_191 rfl rfl ?_ (t_b01 (c := 0)).2.1 ?_
              all_goals (first | with_reducible rfl | (simp_all [-Int32.not_lt, -Int32.not_le, x_item, x_nums, x_two, x_three, x_one, x_tell]))
            · refine sw_aload_n dX4_readItem_192 rfl ?_
              refine sw_iload dX4_readItem_193 rfl ?_
              refine sw_iload dX4_readItem_195 rfl ?_
              refine sw_iload dX4_readItem_197 rfl ?_
              refine sw_callS dX4_readItem_199 lS_X4_59 (c_tellPost (k := k) hk _ _ _) rfl rfl (Nat.le_of_ble_eq_true rfl) (Nat.le_of_ble_eq_true rfl) ?_
              refine sw_zret dX4_readItem_202 rfl rfl ?_ t_b01.2.2.1 ?_
              all_goals (first | with_reducible rfl | (simp_all [-Int32.not_lt, -Int32.not_le, x_item, x_nums, x_two, x_three, x_one, x_tell]))
            · refine sw_aload_n dX4_readItem_203 rfl ?_
              refine sw_iload dX4_readItem_204 rfl ?_
              refine sw_iload dX4_readItem_206 rfl ?_
              refine sw_iload dX4_readItem_208 rfl ?_
              refine sw_callS dX4_readItem_210 lS_X4_62 (c_tellSailor (k := k) hk _ _ _) rfl rfl (Nat.le_of_ble_eq_true rfl) (Nat.le_of_ble_eq_true rfl) ?_
              refine sw_zret dX4_readItem_213 rfl rfl ?_ t_b01.2.2.2 ?_
              all_goals (first | with_reducible rfl | (simp_all [-Int32.not_lt, -Int32.not_le, x_item, x_nums, x_two, x_three, x_one, x_tell]))
            · refine sw_iconst (v := 0) dX4_readItem_214 (by decide) ?_
              refine sw_zret dX4_readItem_215 rfl rfl ?_ (by decide) ?_
              all_goals (first | with_reducible rfl | (simp_all [-Int32.not_lt, -Int32.not_le, x_item, x_nums, x_two, x_three, x_one, x_tell]))
          · refine sw_iconst (v := 0) dX4_readItem_69 (by decide) ?_
            refine sw_zret dX4_readItem_70 rfl rfl ?_ (by decide) ?_
            all_goals (first | with_reducible rfl | (simp_all [-Int32.not_lt, -Int32.not_le, x_item, x_nums, x_two, x_three, x_one, x_tell]))
      · refine sw_iconst (v := 0) dX4_readItem_69 (by decide) ?_
        refine sw_zret dX4_readItem_70 rfl rfl ?_ (by decide) ?_
        all_goals (first | with_reducible rfl | (simp_all [-Int32.not_lt, -Int32.not_le, x_item, x_nums, x_two, x_three, x_one, x_tell]))

set_option maxHeartbeats 4000000 in
theorem l_readInto {k : Nat} (hk : sm_isF k) : ∀ (n i : Nat) (τ : sm_St), i + n = 200 → sm_W RX4 cX4_readInto 4 (some .int) 6 (some (.int (x_read k n τ).1)) (x_read k n τ).2 11 [(0, .ref 97), (1, .ref k), (2, .int (nI i))] [] τ := by
  intro n
  induction n with
  | zero =>
    intro i τ h1
    refine sw_iload_n dX4_readInto_11 rfl ?_
    refine sw_sipush (v := 200) dX4_readInto_12 (by decide) ?_
    refine sw_icmp_ge (tgt := 50) dX4_readInto_15 (by decide) (fun _ => ?_) (fun h => absurd ((by rw [show i = 200 by omega]; decide)) h)
    refine sw_bipush (v := -4) dX4_readInto_50 (by decide) ?_
    refine sw_iret dX4_readInto_52 rfl rfl ?_ ?_
    all_goals (first | with_reducible rfl | (rfl))
  | succ n ih =>
    intro i τ h1
    refine sw_iload_n dX4_readInto_11 rfl ?_
    refine sw_sipush (v := 200) dX4_readInto_12 (by decide) ?_
    refine sw_icmp_ge (tgt := 50) dX4_readInto_15 (by decide) (fun h => absurd h ((fun h => absurd ((nI_leI (by decide) (by omega)).mp (show nI 200 ≤ nI i from h)) (by omega)))) (fun _ => ?_)
    refine sw_aload_n dX4_readInto_18 rfl ?_
    refine sw_getI dX4_readInto_19 fl_X4_33 rfl rfl ?_
    refine sw_aload_n dX4_readInto_22 rfl ?_
    refine sw_getI dX4_readInto_23 fl_X4_18 rfl rfl ?_
    refine sw_icmp_ge (tgt := 50) dX4_readInto_26 (by decide) (fun h26 => ?_) (fun h26 => ?_)
    · refine sw_bipush (v := -4) dX4_readInto_50 (by decide) ?_
      refine sw_iret dX4_readInto_52 rfl rfl ?_ ?_
      all_goals (first | with_reducible rfl | (first | (rw [x_read, if_pos h26]) | (rw [x_read, if_neg h26, if_pos h39])))
    · refine sw_aload_n dX4_readInto_29 rfl ?_
      refine sw_getI dX4_readInto_30 fl_X4_33 rfl rfl ?_
      refine sw_istore_n dX4_readInto_33 (by decide) rfl ?_
      refine sw_aload_n dX4_readInto_34 rfl ?_
      refine sw_aload_n dX4_readInto_35 rfl ?_
      refine sw_callV dX4_readInto_36 lV_X4_36 (c_readItem (k := k) hk) rfl rfl rfl rfl (Nat.le_of_ble_eq_true rfl) (Nat.le_of_ble_eq_true rfl) ?_
      refine sw_if_ne (tgt := 44) dX4_readInto_39 (by decide) (fun h39 => ?_) (fun h39 => ?_)
      · refine sw_iinc dX4_readInto_44 rfl rfl (by decide) rfl ?_
        refine sw_goto (tgt := 11) dX4_readInto_47 (by decide) ?_
        have e : x_read k (n + 1) τ = x_read k n (x_item τ k).2 := by rw [x_read, if_neg h26, if_neg h39]
        rw [e]
        refine sw_lv (ih (i + 1) _ (by omega)) (And.intro rfl (And.intro rfl (And.intro (sm_e rfl ?_) trivial)))
        all_goals (rw [sm_i1, nI_succ])
      · refine sw_iload_n dX4_readInto_42 rfl ?_
        refine sw_iret dX4_readInto_43 rfl rfl ?_ ?_
        all_goals (first | with_reducible rfl | (first | (rw [x_read, if_pos h26]) | (rw [x_read, if_neg h26, if_pos h39])))

set_option maxHeartbeats 4000000 in
theorem c_readInto {σ : sm_St} {k : Nat} (hk : sm_isF k) : sm_C yX4_readInto cX4_readInto 4 (some .int) 6 [.ref 97, .ref k] σ (some (.int (x_into σ k).1)) (x_into σ k).2 := by
  refine sm_C.of (own := RX4) (by decide) rfl (Nat.le_of_ble_eq_true rfl) ?_
  show sm_W RX4 cX4_readInto 4 (some .int) 6 (some (.int (x_into σ k).1)) (x_into σ k).2 0 [(0, .ref 97), (1, .ref k)] [] σ
  refine sw_aload_n dX4_readInto_0 rfl ?_
  refine sw_callV dX4_readInto_1 lV_X4_28 (c_clear (k := k) hk) (sm_Fo hk) rfl rfl rfl (Nat.le_of_ble_eq_true rfl) (Nat.le_of_ble_eq_true rfl) ?_
  refine sw_aload_n dX4_readInto_4 rfl ?_
  refine sw_iconst (v := 0) dX4_readInto_5 (by decide) ?_
  refine sw_put dX4_readInto_6 fl_X4_33 fi_3_3 rfl rfl ?_
  refine sw_iconst (v := 0) dX4_readInto_9 (by decide) ?_
  refine sw_istore_n dX4_readInto_10 (by decide) rfl ?_
  refine sw_lv (l_readInto hk 200 0 _ (by omega)) (And.intro rfl (And.intro rfl (And.intro rfl trivial)))
end
