section
-- ===== PART A: goes FIRST, ahead of the names: the tables' words, and 'selects' of the private methods out of them =====
/-- a private method of a class that the tables say can be made, by its rows of tables_1 -/
def lw_okq (q : MethodName × Nat) : Prop := (q.1.cls ≠ "java/lang/invoke/MethodHandle" ∧ q.1.cls ≠ "java/lang/invoke/VarHandle") ∧ Cond.instantiable q.1.cls q.2 ∈ tables_1 ∧ Cond.privateMethod q.1 ∈ tables_1 ∧ Cond.instanceMethod q.1 ∈ tables_1
theorem lw_p0 : lw_okq (⟨"MustardTreaty$Script", "fits", "(III)Z"⟩, 2) := ⟨⟨by decide +kernel, by decide +kernel⟩, List.mem_of_getElem? (i := 22) (by decide +kernel), List.mem_of_getElem? (i := 282) (by decide +kernel), List.mem_of_getElem? (i := 283) (by decide +kernel)⟩
theorem lw_p1 : lw_okq (⟨"MustardTreaty$Script", "figure", "(I)I"⟩, 2) := ⟨⟨by decide +kernel, by decide +kernel⟩, List.mem_of_getElem? (i := 22) (by decide +kernel), List.mem_of_getElem? (i := 306) (by decide +kernel), List.mem_of_getElem? (i := 307) (by decide +kernel)⟩
theorem lw_p2 : lw_okq (⟨"MustardTreaty", "bitesTillNoneOf", "(I)I"⟩, 10) := ⟨⟨by decide +kernel, by decide +kernel⟩, List.mem_of_getElem? (i := 14) (by decide +kernel), List.mem_of_getElem? (i := 455) (by decide +kernel), List.mem_of_getElem? (i := 456) (by decide +kernel)⟩
theorem lw_p3 : lw_okq (⟨"MustardTreaty$Search", "goOn", "(III)V"⟩, 6) := ⟨⟨by decide +kernel, by decide +kernel⟩, List.mem_of_getElem? (i := 185) (by decide +kernel), List.mem_of_getElem? (i := 474) (by decide +kernel), List.mem_of_getElem? (i := 475) (by decide +kernel)⟩
theorem lw_p4 : lw_okq (⟨"MustardTreaty", "canBeSaidFrom", "(III)Z"⟩, 10) := ⟨⟨by decide +kernel, by decide +kernel⟩, List.mem_of_getElem? (i := 14) (by decide +kernel), List.mem_of_getElem? (i := 486) (by decide +kernel), List.mem_of_getElem? (i := 487) (by decide +kernel)⟩
theorem lw_p5 : lw_okq (⟨"MustardTreaty$Table", "changeBy", "(I)V"⟩, 8) := ⟨⟨by decide +kernel, by decide +kernel⟩, List.mem_of_getElem? (i := 90) (by decide +kernel), List.mem_of_getElem? (i := 509) (by decide +kernel), List.mem_of_getElem? (i := 510) (by decide +kernel)⟩
theorem lw_p6 : lw_okq (⟨"MustardTreaty", "ordersWith", "(I)I"⟩, 10) := ⟨⟨by decide +kernel, by decide +kernel⟩, List.mem_of_getElem? (i := 14) (by decide +kernel), List.mem_of_getElem? (i := 524) (by decide +kernel), List.mem_of_getElem? (i := 525) (by decide +kernel)⟩
theorem lw_p7 : lw_okq (⟨"MustardTreaty$Sights", "fitsAll", "(II)Z"⟩, 4) := ⟨⟨by decide +kernel, by decide +kernel⟩, List.mem_of_getElem? (i := 165) (by decide +kernel), List.mem_of_getElem? (i := 567) (by decide +kernel), List.mem_of_getElem? (i := 568) (by decide +kernel)⟩
theorem lw_p8 : lw_okq (⟨"MustardTreaty$Stops", "isLeast", "(IIII)Z"⟩, 3) := ⟨⟨by decide +kernel, by decide +kernel⟩, List.mem_of_getElem? (i := 213) (by decide +kernel), List.mem_of_getElem? (i := 580) (by decide +kernel), List.mem_of_getElem? (i := 581) (by decide +kernel)⟩
theorem lw_p9 : lw_okq (⟨"MustardTreaty$Stops", "loss", "(IIII)I"⟩, 3) := ⟨⟨by decide +kernel, by decide +kernel⟩, List.mem_of_getElem? (i := 213) (by decide +kernel), List.mem_of_getElem? (i := 584) (by decide +kernel), List.mem_of_getElem? (i := 585) (by decide +kernel)⟩
theorem lw_p10 : lw_okq (⟨"MustardTreaty", "stillEats", "(III)Z"⟩, 10) := ⟨⟨by decide +kernel, by decide +kernel⟩, List.mem_of_getElem? (i := 14) (by decide +kernel), List.mem_of_getElem? (i := 595) (by decide +kernel), List.mem_of_getElem? (i := 596) (by decide +kernel)⟩
theorem lw_p11 : lw_okq (⟨"MustardTreaty", "takeDrawnTurn", "(I)V"⟩, 10) := ⟨⟨by decide +kernel, by decide +kernel⟩, List.mem_of_getElem? (i := 14) (by decide +kernel), List.mem_of_getElem? (i := 614) (by decide +kernel), List.mem_of_getElem? (i := 615) (by decide +kernel)⟩
theorem lw_p12 : lw_okq (⟨"MustardTreatyModel", "readTalk", "()I"⟩, 30) := ⟨⟨by decide +kernel, by decide +kernel⟩, List.mem_of_getElem? (i := 636) (by decide +kernel), List.mem_of_getElem? (i := 749) (by decide +kernel), List.mem_of_getElem? (i := 750) (by decide +kernel)⟩
theorem lw_p13 : lw_okq (⟨"MustardTreatyModel", "figure", "(II)I"⟩, 30) := ⟨⟨by decide +kernel, by decide +kernel⟩, List.mem_of_getElem? (i := 636) (by decide +kernel), List.mem_of_getElem? (i := 753) (by decide +kernel), List.mem_of_getElem? (i := 754) (by decide +kernel)⟩
theorem lw_p14 : lw_okq (⟨"MustardTreatyModel", "readPart", "()Z"⟩, 30) := ⟨⟨by decide +kernel, by decide +kernel⟩, List.mem_of_getElem? (i := 636) (by decide +kernel), List.mem_of_getElem? (i := 757) (by decide +kernel), List.mem_of_getElem? (i := 758) (by decide +kernel)⟩
theorem lw_p15 : lw_okq (⟨"MustardTreatyModel", "readEnvoy", "()Z"⟩, 30) := ⟨⟨by decide +kernel, by decide +kernel⟩, List.mem_of_getElem? (i := 636) (by decide +kernel), List.mem_of_getElem? (i := 761) (by decide +kernel), List.mem_of_getElem? (i := 762) (by decide +kernel)⟩
def lw_privs_1 : List (MethodName × Nat) := [(⟨"MustardTreaty$Script", "fits", "(III)Z"⟩, 2), (⟨"MustardTreaty$Script", "figure", "(I)I"⟩, 2), (⟨"MustardTreaty", "bitesTillNoneOf", "(I)I"⟩, 10), (⟨"MustardTreaty$Search", "goOn", "(III)V"⟩, 6), (⟨"MustardTreaty", "canBeSaidFrom", "(III)Z"⟩, 10), (⟨"MustardTreaty$Table", "changeBy", "(I)V"⟩, 8), (⟨"MustardTreaty", "ordersWith", "(I)I"⟩, 10), (⟨"MustardTreaty$Sights", "fitsAll", "(II)Z"⟩, 4), (⟨"MustardTreaty$Stops", "isLeast", "(IIII)Z"⟩, 3), (⟨"MustardTreaty$Stops", "loss", "(IIII)I"⟩, 3), (⟨"MustardTreaty", "stillEats", "(III)Z"⟩, 10), (⟨"MustardTreaty", "takeDrawnTurn", "(I)V"⟩, 10), (⟨"MustardTreatyModel", "readTalk", "()I"⟩, 30), (⟨"MustardTreatyModel", "figure", "(II)I"⟩, 30), (⟨"MustardTreatyModel", "readPart", "()Z"⟩, 30), (⟨"MustardTreatyModel", "readEnvoy", "()Z"⟩, 30)]
theorem lw_r1 : ∀ q ∈ lw_privs_1, lw_okq q := List.forall_mem_cons.mpr ⟨lw_p0, List.forall_mem_cons.mpr ⟨lw_p1, List.forall_mem_cons.mpr ⟨lw_p2, List.forall_mem_cons.mpr ⟨lw_p3, List.forall_mem_cons.mpr ⟨lw_p4, List.forall_mem_cons.mpr ⟨lw_p5, List.forall_mem_cons.mpr ⟨lw_p6, List.forall_mem_cons.mpr ⟨lw_p7, List.forall_mem_cons.mpr ⟨lw_p8, List.forall_mem_cons.mpr ⟨lw_p9, List.forall_mem_cons.mpr ⟨lw_p10, List.forall_mem_cons.mpr ⟨lw_p11, List.forall_mem_cons.mpr ⟨lw_p12, List.forall_mem_cons.mpr ⟨lw_p13, List.forall_mem_cons.mpr ⟨lw_p14, List.forall_mem_cons.mpr ⟨lw_p15, fun _ h => absurd h List.not_mem_nil⟩⟩⟩⟩⟩⟩⟩⟩⟩⟩⟩⟩⟩⟩⟩⟩
theorem lw_p16 : lw_okq (⟨"MustardTreatyModel", "readClause", "()Z"⟩, 30) := ⟨⟨by decide +kernel, by decide +kernel⟩, List.mem_of_getElem? (i := 636) (by decide +kernel), List.mem_of_getElem? (i := 765) (by decide +kernel), List.mem_of_getElem? (i := 766) (by decide +kernel)⟩
theorem lw_p17 : lw_okq (⟨"MustardTreatyModel", "sayable", "([I)I"⟩, 30) := ⟨⟨by decide +kernel, by decide +kernel⟩, List.mem_of_getElem? (i := 636) (by decide +kernel), List.mem_of_getElem? (i := 777) (by decide +kernel), List.mem_of_getElem? (i := 778) (by decide +kernel)⟩
theorem lw_p18 : lw_okq (⟨"MustardTreatyModel", "canSay", "([II)Z"⟩, 30) := ⟨⟨by decide +kernel, by decide +kernel⟩, List.mem_of_getElem? (i := 636) (by decide +kernel), List.mem_of_getElem? (i := 781) (by decide +kernel), List.mem_of_getElem? (i := 782) (by decide +kernel)⟩
theorem lw_p19 : lw_okq (⟨"MustardTreatyModel", "noEnvoy", "(I)Z"⟩, 30) := ⟨⟨by decide +kernel, by decide +kernel⟩, List.mem_of_getElem? (i := 636) (by decide +kernel), List.mem_of_getElem? (i := 792) (by decide +kernel), List.mem_of_getElem? (i := 793) (by decide +kernel)⟩
theorem lw_p20 : lw_okq (⟨"MustardTreatyModel", "painOf", "(II)I"⟩, 30) := ⟨⟨by decide +kernel, by decide +kernel⟩, List.mem_of_getElem? (i := 636) (by decide +kernel), List.mem_of_getElem? (i := 796) (by decide +kernel), List.mem_of_getElem? (i := 797) (by decide +kernel)⟩
theorem lw_p21 : lw_okq (⟨"MustardTreatyModel", "noClause", "(I)Z"⟩, 30) := ⟨⟨by decide +kernel, by decide +kernel⟩, List.mem_of_getElem? (i := 636) (by decide +kernel), List.mem_of_getElem? (i := 807) (by decide +kernel), List.mem_of_getElem? (i := 808) (by decide +kernel)⟩
theorem lw_p22 : lw_okq (⟨"MustardTreatyModel", "worthOf", "(I)I"⟩, 30) := ⟨⟨by decide +kernel, by decide +kernel⟩, List.mem_of_getElem? (i := 636) (by decide +kernel), List.mem_of_getElem? (i := 812) (by decide +kernel), List.mem_of_getElem? (i := 813) (by decide +kernel)⟩
theorem lw_p23 : lw_okq (⟨"MustardTreatyModel", "note", "()V"⟩, 30) := ⟨⟨by decide +kernel, by decide +kernel⟩, List.mem_of_getElem? (i := 636) (by decide +kernel), List.mem_of_getElem? (i := 820) (by decide +kernel), List.mem_of_getElem? (i := 821) (by decide +kernel)⟩
theorem lw_p24 : lw_okq (⟨"MustardTreatyModel", "goBite", "([I)V"⟩, 30) := ⟨⟨by decide +kernel, by decide +kernel⟩, List.mem_of_getElem? (i := 636) (by decide +kernel), List.mem_of_getElem? (i := 824) (by decide +kernel), List.mem_of_getElem? (i := 825) (by decide +kernel)⟩
theorem lw_p25 : lw_okq (⟨"MustardTreatyModel", "till", "(I)I"⟩, 30) := ⟨⟨by decide +kernel, by decide +kernel⟩, List.mem_of_getElem? (i := 636) (by decide +kernel), List.mem_of_getElem? (i := 851) (by decide +kernel), List.mem_of_getElem? (i := 852) (by decide +kernel)⟩
theorem lw_p26 : lw_okq (⟨"MustardTreatyModel", "begin", "()V"⟩, 30) := ⟨⟨by decide +kernel, by decide +kernel⟩, List.mem_of_getElem? (i := 636) (by decide +kernel), List.mem_of_getElem? (i := 855) (by decide +kernel), List.mem_of_getElem? (i := 856) (by decide +kernel)⟩
theorem lw_p27 : lw_okq (⟨"MustardTreatyModel", "findBest", "(II)V"⟩, 30) := ⟨⟨by decide +kernel, by decide +kernel⟩, List.mem_of_getElem? (i := 636) (by decide +kernel), List.mem_of_getElem? (i := 868) (by decide +kernel), List.mem_of_getElem? (i := 869) (by decide +kernel)⟩
theorem lw_p28 : lw_okq (⟨"MustardTreatyModel", "does", "(I)Z"⟩, 30) := ⟨⟨by decide +kernel, by decide +kernel⟩, List.mem_of_getElem? (i := 636) (by decide +kernel), List.mem_of_getElem? (i := 892) (by decide +kernel), List.mem_of_getElem? (i := 893) (by decide +kernel)⟩
theorem lw_p29 : lw_okq (⟨"MustardTreatyModel", "findRests", "(II)V"⟩, 30) := ⟨⟨by decide +kernel, by decide +kernel⟩, List.mem_of_getElem? (i := 636) (by decide +kernel), List.mem_of_getElem? (i := 930) (by decide +kernel), List.mem_of_getElem? (i := 931) (by decide +kernel)⟩
theorem lw_p30 : lw_okq (⟨"MustardTreatyModel", "lossOf", "(III)I"⟩, 30) := ⟨⟨by decide +kernel, by decide +kernel⟩, List.mem_of_getElem? (i := 636) (by decide +kernel), List.mem_of_getElem? (i := 934) (by decide +kernel), List.mem_of_getElem? (i := 935) (by decide +kernel)⟩
def lw_privs_2 : List (MethodName × Nat) := [(⟨"MustardTreatyModel", "readClause", "()Z"⟩, 30), (⟨"MustardTreatyModel", "sayable", "([I)I"⟩, 30), (⟨"MustardTreatyModel", "canSay", "([II)Z"⟩, 30), (⟨"MustardTreatyModel", "noEnvoy", "(I)Z"⟩, 30), (⟨"MustardTreatyModel", "painOf", "(II)I"⟩, 30), (⟨"MustardTreatyModel", "noClause", "(I)Z"⟩, 30), (⟨"MustardTreatyModel", "worthOf", "(I)I"⟩, 30), (⟨"MustardTreatyModel", "note", "()V"⟩, 30), (⟨"MustardTreatyModel", "goBite", "([I)V"⟩, 30), (⟨"MustardTreatyModel", "till", "(I)I"⟩, 30), (⟨"MustardTreatyModel", "begin", "()V"⟩, 30), (⟨"MustardTreatyModel", "findBest", "(II)V"⟩, 30), (⟨"MustardTreatyModel", "does", "(I)Z"⟩, 30), (⟨"MustardTreatyModel", "findRests", "(II)V"⟩, 30), (⟨"MustardTreatyModel", "lossOf", "(III)I"⟩, 30)]
theorem lw_r2 : ∀ q ∈ lw_privs_2, lw_okq q := List.forall_mem_cons.mpr ⟨lw_p16, List.forall_mem_cons.mpr ⟨lw_p17, List.forall_mem_cons.mpr ⟨lw_p18, List.forall_mem_cons.mpr ⟨lw_p19, List.forall_mem_cons.mpr ⟨lw_p20, List.forall_mem_cons.mpr ⟨lw_p21, List.forall_mem_cons.mpr ⟨lw_p22, List.forall_mem_cons.mpr ⟨lw_p23, List.forall_mem_cons.mpr ⟨lw_p24, List.forall_mem_cons.mpr ⟨lw_p25, List.forall_mem_cons.mpr ⟨lw_p26, List.forall_mem_cons.mpr ⟨lw_p27, List.forall_mem_cons.mpr ⟨lw_p28, List.forall_mem_cons.mpr ⟨lw_p29, List.forall_mem_cons.mpr ⟨lw_p30, fun _ h => absurd h List.not_mem_nil⟩⟩⟩⟩⟩⟩⟩⟩⟩⟩⟩⟩⟩⟩⟩
def lw_privs : List (MethodName × Nat) := lw_privs_1 ++ (lw_privs_2)
def lw_tbl : List Cond := k2_sels lw_privs ++ tables_1
theorem lw_privs_ok : ∀ q ∈ lw_privs, lw_okq q := by
  show ∀ q ∈ lw_privs_1 ++ (lw_privs_2), lw_okq q
  exact List.forall_mem_append.mpr ⟨lw_r1, lw_r2⟩
end
section
def RX0 : String := "MustardTreaty$Acts"
def TX0 : u_T := fun k => match k with
  | 0 => ("MustardTreaty$Acts", "before", "[LMustardTreaty$Table;", true)
  | 1 => ("MustardTreaty$Acts", "oldest", "I", false)
  | _ => ("MustardTreaty$Acts", "count", "I", false)
def tyX0 : Nat → FieldType := fun k => match k with
  | 0 => .array (.object "MustardTreaty$Table")
  | 1 => .int
  | _ => .int
theorem nmX0 : ∀ a, a < 3 → ∀ b, b < 3 → a ≠ b → (TX0 a).2.1 ≠ (TX0 b).2.1 := by decide +kernel
theorem tyX0_ok : ∀ k, k < 3 → parseFieldDescriptor (TX0 k).2.2.1 = some (tyX0 k) := by decide +kernel
abbrev cX0_init : ByteArray := prog_2_method_1_code
def yX0_init : MethodName := ⟨RX0, "<init>", "(LMustardTreaty$Rules;)V"⟩
abbrev cX0_forgetAll : ByteArray := prog_2_method_2_code
def yX0_forgetAll : MethodName := ⟨RX0, "forgetAll", "()V"⟩
abbrev cX0_remember : ByteArray := prog_2_method_3_code
def yX0_remember : MethodName := ⟨RX0, "remember", "(LMustardTreaty$Table;)V"⟩
abbrev cX0_takeBack : ByteArray := prog_2_method_4_code
def yX0_takeBack : MethodName := ⟨RX0, "takeBack", "(LMustardTreaty$Table;)V"⟩
def RX1 : String := "MustardTreaty$Rules"
def TX1 : u_T := fun k => match k with
  | 0 => ("MustardTreaty$Rules", "heatAtFirst", "I", false)
  | 1 => ("MustardTreaty$Rules", "storeAtFirst", "I", false)
  | 2 => ("MustardTreaty$Rules", "envoys", "I", false)
  | 3 => ("MustardTreaty$Rules", "clauses", "I", false)
  | 4 => ("MustardTreaty$Rules", "palate", "[I", true)
  | 5 => ("MustardTreaty$Rules", "wits", "[I", true)
  | 6 => ("MustardTreaty$Rules", "kind", "[I", true)
  | 7 => ("MustardTreaty$Rules", "words", "[I", true)
  | 8 => ("MustardTreaty$Rules", "heatNeeded", "[I", true)
  | _ => ("MustardTreaty$Rules", "owner", "[I", true)
def tyX1 : Nat → FieldType := fun k => match k with
  | 0 => .int
  | 1 => .int
  | 2 => .int
  | 3 => .int
  | 4 => .array .int
  | 5 => .array .int
  | 6 => .array .int
  | 7 => .array .int
  | 8 => .array .int
  | _ => .array .int
theorem nmX1 : ∀ a, a < 10 → ∀ b, b < 10 → a ≠ b → (TX1 a).2.1 ≠ (TX1 b).2.1 := by decide +kernel
theorem tyX1_ok : ∀ k, k < 10 → parseFieldDescriptor (TX1 k).2.2.1 = some (tyX1 k) := by decide +kernel
abbrev cX1_init : ByteArray := prog_3_method_1_code
def yX1_init : MethodName := ⟨RX1, "<init>", "()V"⟩
abbrev cX1_begin : ByteArray := prog_3_method_2_code
def yX1_begin : MethodName := ⟨RX1, "begin", "(II)V"⟩
abbrev cX1_addEnvoy : ByteArray := prog_3_method_3_code
def yX1_addEnvoy : MethodName := ⟨RX1, "addEnvoy", "(III)V"⟩
abbrev cX1_addClause : ByteArray := prog_3_method_4_code
def yX1_addClause : MethodName := ⟨RX1, "addClause", "(III)V"⟩
abbrev cX1_hasEnvoy : ByteArray := prog_3_method_5_code
def yX1_hasEnvoy : MethodName := ⟨RX1, "hasEnvoy", "(I)Z"⟩
abbrev cX1_hasClause : ByteArray := prog_3_method_6_code
def yX1_hasClause : MethodName := ⟨RX1, "hasClause", "(I)Z"⟩
abbrev cX1_worth : ByteArray := prog_3_method_7_code
def yX1_worth : MethodName := ⟨RX1, "worth", "(I)I"⟩
abbrev cX1_worthOf : ByteArray := prog_3_method_8_code
def yX1_worthOf : MethodName := ⟨RX1, "worthOf", "(I)I"⟩
abbrev cX1_clausesOf : ByteArray := prog_3_method_9_code
def yX1_clausesOf : MethodName := ⟨RX1, "clausesOf", "(I)I"⟩
abbrev cX1_tearsToStop : ByteArray := prog_3_method_10_code
def yX1_tearsToStop : MethodName := ⟨RX1, "tearsToStop", "(I)I"⟩
abbrev cX1_pain : ByteArray := prog_3_method_11_code
def yX1_pain : MethodName := ⟨RX1, "pain", "(II)I"⟩
abbrev cX1_painFor : ByteArray := prog_3_method_12_code
def yX1_painFor : MethodName := ⟨RX1, "painFor", "(III)I"⟩
abbrev cX1_wordsAt : ByteArray := prog_3_method_13_code
def yX1_wordsAt : MethodName := ⟨RX1, "wordsAt", "(I)I"⟩
def RX2 : String := "MustardTreaty$Script"
def TX2 : u_T := fun k => match k with
  | 0 => ("MustardTreaty$Script", "bytes", "[I", true)
  | _ => ("MustardTreaty$Script", "length", "I", false)
def tyX2 : Nat → FieldType := fun k => match k with
  | 0 => .array .int
  | _ => .int
theorem nmX2 : ∀ a, a < 2 → ∀ b, b < 2 → a ≠ b → (TX2 a).2.1 ≠ (TX2 b).2.1 := by decide +kernel
theorem tyX2_ok : ∀ k, k < 2 → parseFieldDescriptor (TX2 k).2.2.1 = some (tyX2 k) := by decide +kernel
abbrev cX2_init : ByteArray := prog_4_method_1_code
def yX2_init : MethodName := ⟨RX2, "<init>", "()V"⟩
abbrev cX2_append : ByteArray := prog_4_method_2_code
def yX2_append : MethodName := ⟨RX2, "append", "(I)V"⟩
abbrev cX2_firstFault : ByteArray := prog_4_method_3_code
def yX2_firstFault : MethodName := ⟨RX2, "firstFault", "()I"⟩
abbrev cX2_isAtEndOfPart : ByteArray := prog_4_method_4_code
def yX2_isAtEndOfPart : MethodName := ⟨RX2, "isAtEndOfPart", "(I)Z"⟩
abbrev cX2_fits : ByteArray := prog_4_method_5_code
def yX2_fits : MethodName := ⟨RX2, "fits", "(III)Z"⟩
abbrev cX2_fitsEnvoy : ByteArray := prog_4_method_6_code
def yX2_fitsEnvoy : MethodName := ⟨RX2, "fitsEnvoy", "(II)Z"⟩
abbrev cX2_fitsClause : ByteArray := prog_4_method_7_code
def yX2_fitsClause : MethodName := ⟨RX2, "fitsClause", "(III)Z"⟩
abbrev cX2_isFigure : ByteArray := prog_4_method_8_code
def yX2_isFigure : MethodName := ⟨RX2, "isFigure", "(III)Z"⟩
abbrev cX2_tellInto : ByteArray := prog_4_method_9_code
def yX2_tellInto : MethodName := ⟨RX2, "tellInto", "(LMustardTreaty$Rules;)V"⟩
abbrev cX2_figure : ByteArray := prog_4_method_10_code
def yX2_figure : MethodName := ⟨RX2, "figure", "(I)I"⟩
def RX3 : String := "MustardTreaty$Search"
def TX3 : u_T := fun k => match k with
  | 0 => ("MustardTreaty$Search", "rules", "LMustardTreaty$Rules;", true)
  | 1 => ("MustardTreaty$Search", "behind", "[LMustardTreaty$Table;", true)
  | 2 => ("MustardTreaty$Search", "turns", "I", false)
  | 3 => ("MustardTreaty$Search", "allowed", "I", false)
  | 4 => ("MustardTreaty$Search", "bestWorth", "I", false)
  | _ => ("MustardTreaty$Search", "bestRow", "I", false)
def tyX3 : Nat → FieldType := fun k => match k with
  | 0 => .object "MustardTreaty$Rules"
  | 1 => .array (.object "MustardTreaty$Table")
  | 2 => .int
  | 3 => .int
  | 4 => .int
  | _ => .int
theorem nmX3 : ∀ a, a < 6 → ∀ b, b < 6 → a ≠ b → (TX3 a).2.1 ≠ (TX3 b).2.1 := by decide +kernel
theorem tyX3_ok : ∀ k, k < 6 → parseFieldDescriptor (TX3 k).2.2.1 = some (tyX3 k) := by decide +kernel
abbrev cX3_init : ByteArray := prog_5_method_1_code
def yX3_init : MethodName := ⟨RX3, "<init>", "(LMustardTreaty$Rules;)V"⟩
abbrev cX3_mostBy : ByteArray := prog_5_method_2_code
def yX3_mostBy : MethodName := ⟨RX3, "mostBy", "(LMustardTreaty$Table;II)I"⟩
abbrev cX3_goOn : ByteArray := prog_5_method_3_code
def yX3_goOn : MethodName := ⟨RX3, "goOn", "(III)V"⟩
def RX4 : String := "MustardTreaty$Sights"
def TX4 : u_T := fun k => match k with
  | 0 => ("MustardTreaty$Sights", "kinds", "[I", true)
  | 1 => ("MustardTreaty$Sights", "heats", "[I", true)
  | 2 => ("MustardTreaty$Sights", "tears", "[I", true)
  | _ => ("MustardTreaty$Sights", "count", "I", false)
def tyX4 : Nat → FieldType := fun k => match k with
  | 0 => .array .int
  | 1 => .array .int
  | 2 => .array .int
  | _ => .int
theorem nmX4 : ∀ a, a < 4 → ∀ b, b < 4 → a ≠ b → (TX4 a).2.1 ≠ (TX4 b).2.1 := by decide +kernel
theorem tyX4_ok : ∀ k, k < 4 → parseFieldDescriptor (TX4 k).2.2.1 = some (tyX4 k) := by decide +kernel
abbrev cX4_init : ByteArray := prog_6_method_1_code
def yX4_init : MethodName := ⟨RX4, "<init>", "()V"⟩
abbrev cX4_add : ByteArray := prog_6_method_2_code
def yX4_add : MethodName := ⟨RX4, "add", "(III)V"⟩
abbrev cX4_palatesThatFit : ByteArray := prog_6_method_3_code
def yX4_palatesThatFit : MethodName := ⟨RX4, "palatesThatFit", "(I)I"⟩
abbrev cX4_fitsAll : ByteArray := prog_6_method_4_code
def yX4_fitsAll : MethodName := ⟨RX4, "fitsAll", "(II)Z"⟩
def RX5 : String := "MustardTreaty$Slots"
def TX5 : u_T := fun k => match k with
  | 0 => ("MustardTreaty$Slots", "tables", "[LMustardTreaty$Table;", true)
  | _ => ("MustardTreaty$Slots", "used", "[Z", true)
def tyX5 : Nat → FieldType := fun k => match k with
  | 0 => .array (.object "MustardTreaty$Table")
  | _ => .array .boolean
theorem nmX5 : ∀ a, a < 2 → ∀ b, b < 2 → a ≠ b → (TX5 a).2.1 ≠ (TX5 b).2.1 := by decide +kernel
theorem tyX5_ok : ∀ k, k < 2 → parseFieldDescriptor (TX5 k).2.2.1 = some (tyX5 k) := by decide +kernel
abbrev cX5_init : ByteArray := prog_7_method_1_code
def yX5_init : MethodName := ⟨RX5, "<init>", "(LMustardTreaty$Rules;)V"⟩
abbrev cX5_put : ByteArray := prog_7_method_2_code
def yX5_put : MethodName := ⟨RX5, "put", "(ILMustardTreaty$Table;)V"⟩
abbrev cX5_forgetAll : ByteArray := prog_7_method_3_code
def yX5_forgetAll : MethodName := ⟨RX5, "forgetAll", "()V"⟩
def RX6 : String := "MustardTreaty$Stops"
def TX6 : u_T := fun k => match k with
  | 0 => ("MustardTreaty$Stops", "rules", "LMustardTreaty$Rules;", true)
  | 1 => ("MustardTreaty$Stops", "count", "I", false)
  | _ => ("MustardTreaty$Stops", "first", "I", false)
def tyX6 : Nat → FieldType := fun k => match k with
  | 0 => .object "MustardTreaty$Rules"
  | 1 => .int
  | _ => .int
theorem nmX6 : ∀ a, a < 3 → ∀ b, b < 3 → a ≠ b → (TX6 a).2.1 ≠ (TX6 b).2.1 := by decide +kernel
theorem tyX6_ok : ∀ k, k < 3 → parseFieldDescriptor (TX6 k).2.2.1 = some (tyX6 k) := by decide +kernel
abbrev cX6_init : ByteArray := prog_8_method_1_code
def yX6_init : MethodName := ⟨RX6, "<init>", "(LMustardTreaty$Rules;)V"⟩
abbrev cX6_find : ByteArray := prog_8_method_2_code
def yX6_find : MethodName := ⟨RX6, "find", "(III)V"⟩
abbrev cX6_isLeast : ByteArray := prog_8_method_3_code
def yX6_isLeast : MethodName := ⟨RX6, "isLeast", "(IIII)Z"⟩
abbrev cX6_loss : ByteArray := prog_8_method_4_code
def yX6_loss : MethodName := ⟨RX6, "loss", "(IIII)I"⟩
def RX7 : String := "MustardTreaty$Table"
def TX7 : u_T := fun k => match k with
  | 0 => ("MustardTreaty$Table", "rules", "LMustardTreaty$Rules;", true)
  | 1 => ("MustardTreaty$Table", "heat", "I", false)
  | 2 => ("MustardTreaty$Table", "store", "I", false)
  | 3 => ("MustardTreaty$Table", "eating", "I", false)
  | 4 => ("MustardTreaty$Table", "fed", "I", false)
  | 5 => ("MustardTreaty$Table", "bound", "I", false)
  | 6 => ("MustardTreaty$Table", "bites", "I", false)
  | _ => ("MustardTreaty$Table", "tears", "[I", true)
def tyX7 : Nat → FieldType := fun k => match k with
  | 0 => .object "MustardTreaty$Rules"
  | 1 => .int
  | 2 => .int
  | 3 => .int
  | 4 => .int
  | 5 => .int
  | 6 => .int
  | _ => .array .int
theorem nmX7 : ∀ a, a < 8 → ∀ b, b < 8 → a ≠ b → (TX7 a).2.1 ≠ (TX7 b).2.1 := by decide +kernel
theorem tyX7_ok : ∀ k, k < 8 → parseFieldDescriptor (TX7 k).2.2.1 = some (tyX7 k) := by decide +kernel
abbrev cX7_init : ByteArray := prog_9_method_1_code
def yX7_init : MethodName := ⟨RX7, "<init>", "(LMustardTreaty$Rules;)V"⟩
abbrev cX7_layAnew : ByteArray := prog_9_method_2_code
def yX7_layAnew : MethodName := ⟨RX7, "layAnew", "()V"⟩
abbrev cX7_copyFrom : ByteArray := prog_9_method_3_code
def yX7_copyFrom : MethodName := ⟨RX7, "copyFrom", "(LMustardTreaty$Table;)V"⟩
abbrev cX7_eats : ByteArray := prog_9_method_4_code
def yX7_eats : MethodName := ⟨RX7, "eats", "(I)Z"⟩
abbrev cX7_hadBread : ByteArray := prog_9_method_5_code
def yX7_hadBread : MethodName := ⟨RX7, "hadBread", "(I)Z"⟩
abbrev cX7_isBound : ByteArray := prog_9_method_6_code
def yX7_isBound : MethodName := ⟨RX7, "isBound", "(I)Z"⟩
abbrev cX7_canBeSaid : ByteArray := prog_9_method_7_code
def yX7_canBeSaid : MethodName := ⟨RX7, "canBeSaid", "(I)Z"⟩
abbrev cX7_sayable : ByteArray := prog_9_method_8_code
def yX7_sayable : MethodName := ⟨RX7, "sayable", "()I"⟩
abbrev cX7_takeBite : ByteArray := prog_9_method_9_code
def yX7_takeBite : MethodName := ⟨RX7, "takeBite", "()V"⟩
abbrev cX7_bind : ByteArray := prog_9_method_10_code
def yX7_bind : MethodName := ⟨RX7, "bind", "(I)V"⟩
abbrev cX7_putSeed : ByteArray := prog_9_method_11_code
def yX7_putSeed : MethodName := ⟨RX7, "putSeed", "()V"⟩
abbrev cX7_takeBread : ByteArray := prog_9_method_12_code
def yX7_takeBread : MethodName := ⟨RX7, "takeBread", "(I)V"⟩
abbrev cX7_takeTurn : ByteArray := prog_9_method_13_code
def yX7_takeTurn : MethodName := ⟨RX7, "takeTurn", "(I)Z"⟩
abbrev cX7_changeBy : ByteArray := prog_9_method_14_code
def yX7_changeBy : MethodName := ⟨RX7, "changeBy", "(I)V"⟩
def RX8 : String := "MustardTreaty"
def TX8 : u_T := fun k => match k with
  | 0 => ("MustardTreaty", "script", "LMustardTreaty$Script;", true)
  | 1 => ("MustardTreaty", "rules", "LMustardTreaty$Rules;", true)
  | 2 => ("MustardTreaty", "table", "LMustardTreaty$Table;", true)
  | 3 => ("MustardTreaty", "trial", "LMustardTreaty$Table;", true)
  | 4 => ("MustardTreaty", "acts", "LMustardTreaty$Acts;", true)
  | 5 => ("MustardTreaty", "slots", "LMustardTreaty$Slots;", true)
  | 6 => ("MustardTreaty", "sights", "LMustardTreaty$Sights;", true)
  | 7 => ("MustardTreaty", "search", "LMustardTreaty$Search;", true)
  | 8 => ("MustardTreaty", "stops", "LMustardTreaty$Stops;", true)
  | _ => ("MustardTreaty", "chanceSeed", "J", false)
def tyX8 : Nat → FieldType := fun k => match k with
  | 0 => .object "MustardTreaty$Script"
  | 1 => .object "MustardTreaty$Rules"
  | 2 => .object "MustardTreaty$Table"
  | 3 => .object "MustardTreaty$Table"
  | 4 => .object "MustardTreaty$Acts"
  | 5 => .object "MustardTreaty$Slots"
  | 6 => .object "MustardTreaty$Sights"
  | 7 => .object "MustardTreaty$Search"
  | 8 => .object "MustardTreaty$Stops"
  | _ => .long
theorem nmX8 : ∀ a, a < 10 → ∀ b, b < 10 → a ≠ b → (TX8 a).2.1 ≠ (TX8 b).2.1 := by decide +kernel
theorem tyX8_ok : ∀ k, k < 10 → parseFieldDescriptor (TX8 k).2.2.1 = some (tyX8 k) := by decide +kernel
abbrev cX8_init : ByteArray := prog_1_method_1_code
def yX8_init : MethodName := ⟨RX8, "<init>", "()V"⟩
abbrev cX8_write : ByteArray := prog_1_method_2_code
def yX8_write : MethodName := ⟨RX8, "write", "(I)I"⟩
abbrev cX8_wipe : ByteArray := prog_1_method_3_code
def yX8_wipe : MethodName := ⟨RX8, "wipe", "()I"⟩
abbrev cX8_fault : ByteArray := prog_1_method_4_code
def yX8_fault : MethodName := ⟨RX8, "fault", "()I"⟩
abbrev cX8_talk : ByteArray := prog_1_method_5_code
def yX8_talk : MethodName := ⟨RX8, "talk", "()I"⟩
abbrev cX8_about : ByteArray := prog_1_method_6_code
def yX8_about : MethodName := ⟨RX8, "about", "(I)I"⟩
abbrev cX8_envoy : ByteArray := prog_1_method_7_code
def yX8_envoy : MethodName := ⟨RX8, "envoy", "(II)I"⟩
abbrev cX8_clause : ByteArray := prog_1_method_8_code
def yX8_clause : MethodName := ⟨RX8, "clause", "(II)I"⟩
abbrev cX8_bite : ByteArray := prog_1_method_9_code
def yX8_bite : MethodName := ⟨RX8, "bite", "()I"⟩
abbrev cX8_say : ByteArray := prog_1_method_10_code
def yX8_say : MethodName := ⟨RX8, "say", "(I)I"⟩
abbrev cX8_spice : ByteArray := prog_1_method_11_code
def yX8_spice : MethodName := ⟨RX8, "spice", "()I"⟩
abbrev cX8_bread : ByteArray := prog_1_method_12_code
def yX8_bread : MethodName := ⟨RX8, "bread", "(I)I"⟩
abbrev cX8_undo : ByteArray := prog_1_method_13_code
def yX8_undo : MethodName := ⟨RX8, "undo", "()I"⟩
abbrev cX8_lasts : ByteArray := prog_1_method_14_code
def yX8_lasts : MethodName := ⟨RX8, "lasts", "()I"⟩
abbrev cX8_bears : ByteArray := prog_1_method_15_code
def yX8_bears : MethodName := ⟨RX8, "bears", "(I)I"⟩
abbrev cX8_bitesTillNoneOf : ByteArray := prog_1_method_16_code
def yX8_bitesTillNoneOf : MethodName := ⟨RX8, "bitesTillNoneOf", "(I)I"⟩
abbrev cX8_best : ByteArray := prog_1_method_17_code
def yX8_best : MethodName := ⟨RX8, "best", "(IZ)I"⟩
abbrev cX8_hot : ByteArray := prog_1_method_18_code
def yX8_hot : MethodName := ⟨RX8, "hot", "(II)I"⟩
abbrev cX8_canBeSaidFrom : ByteArray := prog_1_method_19_code
def yX8_canBeSaidFrom : MethodName := ⟨RX8, "canBeSaidFrom", "(III)Z"⟩
abbrev cX8_spiceFor : ByteArray := prog_1_method_20_code
def yX8_spiceFor : MethodName := ⟨RX8, "spiceFor", "(I)I"⟩
abbrev cX8_judge : ByteArray := prog_1_method_21_code
def yX8_judge : MethodName := ⟨RX8, "judge", "(II)I"⟩
abbrev cX8_isRowOfFigures : ByteArray := prog_1_method_22_code
def yX8_isRowOfFigures : MethodName := ⟨RX8, "isRowOfFigures", "(II)Z"⟩
abbrev cX8_powerOfTen : ByteArray := prog_1_method_23_code
def yX8_powerOfTen : MethodName := ⟨RX8, "powerOfTen", "(I)I"⟩
abbrev cX8_share : ByteArray := prog_1_method_24_code
def yX8_share : MethodName := ⟨RX8, "share", "(IZ)I"⟩
abbrev cX8_ordersWith : ByteArray := prog_1_method_25_code
def yX8_ordersWith : MethodName := ⟨RX8, "ordersWith", "(I)I"⟩
abbrev cX8_factorial : ByteArray := prog_1_method_26_code
def yX8_factorial : MethodName := ⟨RX8, "factorial", "(I)I"⟩
abbrev cX8_fraction : ByteArray := prog_1_method_27_code
def yX8_fraction : MethodName := ⟨RX8, "fraction", "(IIZ)I"⟩
abbrev cX8_commonDivisor : ByteArray := prog_1_method_28_code
def yX8_commonDivisor : MethodName := ⟨RX8, "commonDivisor", "(II)I"⟩
abbrev cX8_see : ByteArray := prog_1_method_29_code
def yX8_see : MethodName := ⟨RX8, "see", "(III)I"⟩
abbrev cX8_unsee : ByteArray := prog_1_method_30_code
def yX8_unsee : MethodName := ⟨RX8, "unsee", "()I"⟩
abbrev cX8_palates : ByteArray := prog_1_method_31_code
def yX8_palates : MethodName := ⟨RX8, "palates", "(I)I"⟩
abbrev cX8_isKind : ByteArray := prog_1_method_32_code
def yX8_isKind : MethodName := ⟨RX8, "isKind", "(I)Z"⟩
abbrev cX8_rests : ByteArray := prog_1_method_33_code
def yX8_rests : MethodName := ⟨RX8, "rests", "(III)I"⟩
abbrev cX8_chance : ByteArray := prog_1_method_34_code
def yX8_chance : MethodName := ⟨RX8, "chance", "(IIIZ)I"⟩
abbrev cX8_stillEats : ByteArray := prog_1_method_35_code
def yX8_stillEats : MethodName := ⟨RX8, "stillEats", "(III)Z"⟩
abbrev cX8_weight : ByteArray := prog_1_method_36_code
def yX8_weight : MethodName := ⟨RX8, "weight", "(III)I"⟩
abbrev cX8_seed : ByteArray := prog_1_method_37_code
def yX8_seed : MethodName := ⟨RX8, "seed", "(J)J"⟩
abbrev cX8_talks : ByteArray := prog_1_method_38_code
def yX8_talks : MethodName := ⟨RX8, "talks", "(I)I"⟩
abbrev cX8_takeDrawnTurn : ByteArray := prog_1_method_39_code
def yX8_takeDrawnTurn : MethodName := ⟨RX8, "takeDrawnTurn", "(I)V"⟩
abbrev cX8_keep : ByteArray := prog_1_method_40_code
def yX8_keep : MethodName := ⟨RX8, "keep", "(I)I"⟩
abbrev cX8_again : ByteArray := prog_1_method_41_code
def yX8_again : MethodName := ⟨RX8, "again", "(I)I"⟩
def RX9 : String := "MustardTreatyModel"
def TX9 : u_T := fun k => match k with
  | 0 => ("MustardTreatyModel", "thrown", "I", false)
  | 1 => ("MustardTreatyModel", "text", "[I", true)
  | 2 => ("MustardTreatyModel", "textSize", "I", false)
  | 3 => ("MustardTreatyModel", "place", "I", false)
  | 4 => ("MustardTreatyModel", "envoys", "I", false)
  | 5 => ("MustardTreatyModel", "envoy", "[I", true)
  | 6 => ("MustardTreatyModel", "clauses", "I", false)
  | 7 => ("MustardTreatyModel", "clause", "[I", true)
  | 8 => ("MustardTreatyModel", "readHeat", "I", false)
  | 9 => ("MustardTreatyModel", "readSeed", "I", false)
  | 10 => ("MustardTreatyModel", "readEnvoys", "I", false)
  | 11 => ("MustardTreatyModel", "readEnvoy", "[I", true)
  | 12 => ("MustardTreatyModel", "readClauses", "I", false)
  | 13 => ("MustardTreatyModel", "readClause", "[I", true)
  | 14 => ("MustardTreatyModel", "page", "[I", true)
  | 15 => ("MustardTreatyModel", "trial", "[I", true)
  | 16 => ("MustardTreatyModel", "book", "[I", true)
  | 17 => ("MustardTreatyModel", "acts", "I", false)
  | 18 => ("MustardTreatyModel", "kept", "[I", true)
  | 19 => ("MustardTreatyModel", "isKept", "[Z", true)
  | 20 => ("MustardTreatyModel", "seen", "I", false)
  | 21 => ("MustardTreatyModel", "seenKind", "[I", true)
  | 22 => ("MustardTreatyModel", "seenHeat", "[I", true)
  | 23 => ("MustardTreatyModel", "seenTears", "[I", true)
  | 24 => ("MustardTreatyModel", "seed", "J", false)
  | 25 => ("MustardTreatyModel", "bestWorth", "I", false)
  | 26 => ("MustardTreatyModel", "bestRow", "I", false)
  | 27 => ("MustardTreatyModel", "restMany", "I", false)
  | 28 => ("MustardTreatyModel", "restFirst", "I", false)
  | _ => ("MustardTreatyModel", "value", "[I", true)
def tyX9 : Nat → FieldType := fun k => match k with
  | 0 => .int
  | 1 => .array .int
  | 2 => .int
  | 3 => .int
  | 4 => .int
  | 5 => .array .int
  | 6 => .int
  | 7 => .array .int
  | 8 => .int
  | 9 => .int
  | 10 => .int
  | 11 => .array .int
  | 12 => .int
  | 13 => .array .int
  | 14 => .array .int
  | 15 => .array .int
  | 16 => .array .int
  | 17 => .int
  | 18 => .array .int
  | 19 => .array .boolean
  | 20 => .int
  | 21 => .array .int
  | 22 => .array .int
  | 23 => .array .int
  | 24 => .long
  | 25 => .int
  | 26 => .int
  | 27 => .int
  | 28 => .int
  | _ => .array .int
theorem nmX9 : ∀ a, a < 30 → ∀ b, b < 30 → a ≠ b → (TX9 a).2.1 ≠ (TX9 b).2.1 := by decide +kernel
theorem tyX9_ok : ∀ k, k < 30 → parseFieldDescriptor (TX9 k).2.2.1 = some (tyX9 k) := by decide +kernel
abbrev cX9_init : ByteArray := prog_11_method_1_code
def yX9_init : MethodName := ⟨RX9, "<init>", "()V"⟩
abbrev cX9_in : ByteArray := prog_11_method_3_code
def yX9_in : MethodName := ⟨RX9, "in", "(JJJ)Z"⟩
abbrev cX9_has : ByteArray := prog_11_method_4_code
def yX9_has : MethodName := ⟨RX9, "has", "(II)Z"⟩
abbrev cX9_many : ByteArray := prog_11_method_5_code
def yX9_many : MethodName := ⟨RX9, "many", "(I)I"⟩
abbrev cX9_noEnvoy : ByteArray := prog_11_method_6_code
def yX9_noEnvoy : MethodName := ⟨RX9, "noEnvoy", "(I)Z"⟩
abbrev cX9_noClause : ByteArray := prog_11_method_7_code
def yX9_noClause : MethodName := ⟨RX9, "noClause", "(I)Z"⟩
abbrev cX9_write : ByteArray := prog_11_method_8_code
def yX9_write : MethodName := ⟨RX9, "write", "(I)I"⟩
abbrev cX9_wipe : ByteArray := prog_11_method_9_code
def yX9_wipe : MethodName := ⟨RX9, "wipe", "()I"⟩
abbrev cX9_figure : ByteArray := prog_11_method_10_code
def yX9_figure : MethodName := ⟨RX9, "figure", "(II)I"⟩
abbrev cX9_readEnvoy : ByteArray := prog_11_method_11_code
def yX9_readEnvoy : MethodName := ⟨RX9, "readEnvoy", "()Z"⟩
abbrev cX9_readClause : ByteArray := prog_11_method_12_code
def yX9_readClause : MethodName := ⟨RX9, "readClause", "()Z"⟩
abbrev cX9_readPart : ByteArray := prog_11_method_13_code
def yX9_readPart : MethodName := ⟨RX9, "readPart", "()Z"⟩
abbrev cX9_readTalk : ByteArray := prog_11_method_14_code
def yX9_readTalk : MethodName := ⟨RX9, "readTalk", "()I"⟩
abbrev cX9_fault : ByteArray := prog_11_method_15_code
def yX9_fault : MethodName := ⟨RX9, "fault", "()I"⟩
abbrev cX9_talk : ByteArray := prog_11_method_16_code
def yX9_talk : MethodName := ⟨RX9, "talk", "()I"⟩
abbrev cX9_painBy : ByteArray := prog_11_method_17_code
def yX9_painBy : MethodName := ⟨RX9, "painBy", "(III)I"⟩
abbrev cX9_painOf : ByteArray := prog_11_method_18_code
def yX9_painOf : MethodName := ⟨RX9, "painOf", "(II)I"⟩
abbrev cX9_worthOf : ByteArray := prog_11_method_19_code
def yX9_worthOf : MethodName := ⟨RX9, "worthOf", "(I)I"⟩
abbrev cX9_canSay : ByteArray := prog_11_method_20_code
def yX9_canSay : MethodName := ⟨RX9, "canSay", "([II)Z"⟩
abbrev cX9_sayable : ByteArray := prog_11_method_21_code
def yX9_sayable : MethodName := ⟨RX9, "sayable", "([I)I"⟩
abbrev cX9_goBite : ByteArray := prog_11_method_22_code
def yX9_goBite : MethodName := ⟨RX9, "goBite", "([I)V"⟩
abbrev cX9_goSpice : ByteArray := prog_11_method_23_code
def yX9_goSpice : MethodName := ⟨RX9, "goSpice", "([I)V"⟩
abbrev cX9_about : ByteArray := prog_11_method_24_code
def yX9_about : MethodName := ⟨RX9, "about", "(I)I"⟩
abbrev cX9_envoy : ByteArray := prog_11_method_25_code
def yX9_envoy : MethodName := ⟨RX9, "envoy", "(II)I"⟩
abbrev cX9_clause : ByteArray := prog_11_method_26_code
def yX9_clause : MethodName := ⟨RX9, "clause", "(II)I"⟩
abbrev cX9_note : ByteArray := prog_11_method_27_code
def yX9_note : MethodName := ⟨RX9, "note", "()V"⟩
abbrev cX9_bite : ByteArray := prog_11_method_28_code
def yX9_bite : MethodName := ⟨RX9, "bite", "()I"⟩
abbrev cX9_say : ByteArray := prog_11_method_29_code
def yX9_say : MethodName := ⟨RX9, "say", "(I)I"⟩
abbrev cX9_spice : ByteArray := prog_11_method_30_code
def yX9_spice : MethodName := ⟨RX9, "spice", "()I"⟩
abbrev cX9_bread : ByteArray := prog_11_method_31_code
def yX9_bread : MethodName := ⟨RX9, "bread", "(I)I"⟩
abbrev cX9_undo : ByteArray := prog_11_method_32_code
def yX9_undo : MethodName := ⟨RX9, "undo", "()I"⟩
abbrev cX9_begin : ByteArray := prog_11_method_33_code
def yX9_begin : MethodName := ⟨RX9, "begin", "()V"⟩
abbrev cX9_till : ByteArray := prog_11_method_34_code
def yX9_till : MethodName := ⟨RX9, "till", "(I)I"⟩
abbrev cX9_lasts : ByteArray := prog_11_method_35_code
def yX9_lasts : MethodName := ⟨RX9, "lasts", "()I"⟩
abbrev cX9_bears : ByteArray := prog_11_method_36_code
def yX9_bears : MethodName := ⟨RX9, "bears", "(I)I"⟩
abbrev cX9_power : ByteArray := prog_11_method_37_code
def yX9_power : MethodName := ⟨RX9, "power", "(II)I"⟩
abbrev cX9_findBest : ByteArray := prog_11_method_38_code
def yX9_findBest : MethodName := ⟨RX9, "findBest", "(II)V"⟩
abbrev cX9_best : ByteArray := prog_11_method_39_code
def yX9_best : MethodName := ⟨RX9, "best", "(IZ)I"⟩
abbrev cX9_hot : ByteArray := prog_11_method_40_code
def yX9_hot : MethodName := ⟨RX9, "hot", "(II)I"⟩
abbrev cX9_spiceFor : ByteArray := prog_11_method_41_code
def yX9_spiceFor : MethodName := ⟨RX9, "spiceFor", "(I)I"⟩
abbrev cX9_noRow : ByteArray := prog_11_method_42_code
def yX9_noRow : MethodName := ⟨RX9, "noRow", "(II)Z"⟩
abbrev cX9_does : ByteArray := prog_11_method_43_code
def yX9_does : MethodName := ⟨RX9, "does", "(I)Z"⟩
abbrev cX9_judge : ByteArray := prog_11_method_44_code
def yX9_judge : MethodName := ⟨RX9, "judge", "(II)I"⟩
abbrev cX9_ways : ByteArray := prog_11_method_45_code
def yX9_ways : MethodName := ⟨RX9, "ways", "(I)I"⟩
abbrev cX9_divisor : ByteArray := prog_11_method_46_code
def yX9_divisor : MethodName := ⟨RX9, "divisor", "(II)I"⟩
abbrev cX9_fraction : ByteArray := prog_11_method_47_code
def yX9_fraction : MethodName := ⟨RX9, "fraction", "(IIZ)I"⟩
abbrev cX9_share : ByteArray := prog_11_method_48_code
def yX9_share : MethodName := ⟨RX9, "share", "(IZ)I"⟩
abbrev cX9_see : ByteArray := prog_11_method_49_code
def yX9_see : MethodName := ⟨RX9, "see", "(III)I"⟩
abbrev cX9_unsee : ByteArray := prog_11_method_50_code
def yX9_unsee : MethodName := ⟨RX9, "unsee", "()I"⟩
abbrev cX9_palates : ByteArray := prog_11_method_51_code
def yX9_palates : MethodName := ⟨RX9, "palates", "(I)I"⟩
abbrev cX9_lossOf : ByteArray := prog_11_method_52_code
def yX9_lossOf : MethodName := ⟨RX9, "lossOf", "(III)I"⟩
abbrev cX9_findRests : ByteArray := prog_11_method_53_code
def yX9_findRests : MethodName := ⟨RX9, "findRests", "(II)V"⟩
abbrev cX9_rests : ByteArray := prog_11_method_54_code
def yX9_rests : MethodName := ⟨RX9, "rests", "(III)I"⟩
abbrev cX9_chance : ByteArray := prog_11_method_55_code
def yX9_chance : MethodName := ⟨RX9, "chance", "(IIIZ)I"⟩
abbrev cX9_seed : ByteArray := prog_11_method_56_code
def yX9_seed : MethodName := ⟨RX9, "seed", "(J)J"⟩
abbrev cX9_talks : ByteArray := prog_11_method_57_code
def yX9_talks : MethodName := ⟨RX9, "talks", "(I)I"⟩
abbrev cX9_keep : ByteArray := prog_11_method_58_code
def yX9_keep : MethodName := ⟨RX9, "keep", "(I)I"⟩
abbrev cX9_again : ByteArray := prog_11_method_59_code
def yX9_again : MethodName := ⟨RX9, "again", "(I)I"⟩
def RJ6 : String := "java/lang/Integer"
def TJ6 : u_T := fun k => match k with
  | _ => ("", "", "", false)
def tyJ6 : Nat → FieldType := fun k => match k with
  | _ => .int
theorem nmJ6 : ∀ a, a < 0 → ∀ b, b < 0 → a ≠ b → (TJ6 a).2.1 ≠ (TJ6 b).2.1 := by decide +kernel
theorem tyJ6_ok : ∀ k, k < 0 → parseFieldDescriptor (TJ6 k).2.2.1 = some (tyJ6 k) := by decide +kernel
abbrev cJ6_bitCount_0f7a4 : ByteArray := prog_12_method_49_code
def yJ6_bitCount_0f7a4 : MethodName := ⟨RJ6, "bitCount", "(I)I"⟩
def RJ9 : String := "java/lang/Math"
def TJ9 : u_T := fun k => match k with
  | _ => ("", "", "", false)
def tyJ9 : Nat → FieldType := fun k => match k with
  | _ => .int
theorem nmJ9 : ∀ a, a < 0 → ∀ b, b < 0 → a ≠ b → (TJ9 a).2.1 ≠ (TJ9 b).2.1 := by decide +kernel
theorem tyJ9_ok : ∀ k, k < 0 → parseFieldDescriptor (TJ9 k).2.2.1 = some (tyJ9 k) := by decide +kernel
abbrev cJ9_max_7cf53 : ByteArray := prog_13_method_65_code
def yJ9_max_7cf53 : MethodName := ⟨RJ9, "max", "(II)I"⟩
abbrev cJ9_min_7cf53 : ByteArray := prog_13_method_69_code
def yJ9_min_7cf53 : MethodName := ⟨RJ9, "min", "(II)I"⟩
def RL : String := "MustardTreatyLaw"
abbrev cL_law : ByteArray := code
def yL_law : MethodName := ⟨RL, "law", "([I)Z"⟩
abbrev vwCl : List vw_C := [(RX0, TX0, 3), (RX1, TX1, 10), (RX2, TX2, 2), (RX3, TX3, 6), (RX4, TX4, 4), (RX5, TX5, 2), (RX6, TX6, 3), (RX7, TX7, 8), (RX8, TX8, 10), (RX9, TX9, 30)]
set_option maxRecDepth 20000 in
theorem inX0 : ∀ w ∈ u_ws RX0 TX0 3, w ∈ lw_tbl := by decide +kernel
set_option maxRecDepth 20000 in
theorem inX1 : ∀ w ∈ u_ws RX1 TX1 10, w ∈ lw_tbl := by decide +kernel
set_option maxRecDepth 20000 in
theorem inX2 : ∀ w ∈ u_ws RX2 TX2 2, w ∈ lw_tbl := by decide +kernel
set_option maxRecDepth 20000 in
theorem inX3 : ∀ w ∈ u_ws RX3 TX3 6, w ∈ lw_tbl := by decide +kernel
set_option maxRecDepth 20000 in
theorem inX4 : ∀ w ∈ u_ws RX4 TX4 4, w ∈ lw_tbl := by decide +kernel
set_option maxRecDepth 20000 in
theorem inX5 : ∀ w ∈ u_ws RX5 TX5 2, w ∈ lw_tbl := by decide +kernel
set_option maxRecDepth 20000 in
theorem inX6 : ∀ w ∈ u_ws RX6 TX6 3, w ∈ lw_tbl := by decide +kernel
set_option maxRecDepth 20000 in
theorem inX7 : ∀ w ∈ u_ws RX7 TX7 8, w ∈ lw_tbl := by decide +kernel
set_option maxRecDepth 20000 in
theorem inX8 : ∀ w ∈ u_ws RX8 TX8 10, w ∈ lw_tbl := by decide +kernel
set_option maxRecDepth 20000 in
theorem inX9 : ∀ w ∈ u_ws RX9 TX9 30, w ∈ lw_tbl := by decide +kernel
end
section
theorem dX0_init_0 : decode cX0_init 0 = .ok (.aload_n 0, 1) := by decide +kernel
theorem dX0_init_1 : decode cX0_init 1 = .ok (.invokespecial 3, 3) := by decide +kernel
theorem dX0_init_4 : decode cX0_init 4 = .ok (.aload_n 0, 1) := by decide +kernel
theorem dX0_init_5 : decode cX0_init 5 = .ok (.bipush 14, 2) := by decide +kernel
theorem dX0_init_7 : decode cX0_init 7 = .ok (.anewarray 9, 3) := by decide +kernel
theorem dX0_init_10 : decode cX0_init 10 = .ok (.putfield 11, 3) := by decide +kernel
theorem dX0_init_13 : decode cX0_init 13 = .ok (.iconst 0, 1) := by decide +kernel
theorem dX0_init_14 : decode cX0_init 14 = .ok (.istore_n 2, 1) := by decide +kernel
theorem dX0_init_15 : decode cX0_init 15 = .ok (.iload_n 2, 1) := by decide +kernel
theorem dX0_init_16 : decode cX0_init 16 = .ok (.bipush 14, 2) := by decide +kernel
theorem dX0_init_18 : decode cX0_init 18 = .ok (.if_icmp .ge 23, 3) := by decide +kernel
theorem dX0_init_21 : decode cX0_init 21 = .ok (.aload_n 0, 1) := by decide +kernel
theorem dX0_init_22 : decode cX0_init 22 = .ok (.getfield 11, 3) := by decide +kernel
theorem dX0_init_25 : decode cX0_init 25 = .ok (.iload_n 2, 1) := by decide +kernel
theorem dX0_init_26 : decode cX0_init 26 = .ok (.new 9, 3) := by decide +kernel
theorem dX0_init_29 : decode cX0_init 29 = .ok (.dup, 1) := by decide +kernel
theorem dX0_init_30 : decode cX0_init 30 = .ok (.aload_n 1, 1) := by decide +kernel
theorem dX0_init_31 : decode cX0_init 31 = .ok (.invokespecial 17, 3) := by decide +kernel
theorem dX0_init_34 : decode cX0_init 34 = .ok (.aastore, 1) := by decide +kernel
theorem dX0_init_35 : decode cX0_init 35 = .ok (.iinc 2 1, 3) := by decide +kernel
theorem dX0_init_38 : decode cX0_init 38 = .ok (.goto (-23), 3) := by decide +kernel
theorem dX0_init_41 : decode cX0_init 41 = .ok (.return_, 1) := by decide +kernel
theorem dX0_forgetAll_0 : decode cX0_forgetAll 0 = .ok (.aload_n 0, 1) := by decide +kernel
theorem dX0_forgetAll_1 : decode cX0_forgetAll 1 = .ok (.iconst 0, 1) := by decide +kernel
theorem dX0_forgetAll_2 : decode cX0_forgetAll 2 = .ok (.putfield 20, 3) := by decide +kernel
theorem dX0_forgetAll_5 : decode cX0_forgetAll 5 = .ok (.aload_n 0, 1) := by decide +kernel
theorem dX0_forgetAll_6 : decode cX0_forgetAll 6 = .ok (.iconst 0, 1) := by decide +kernel
theorem dX0_forgetAll_7 : decode cX0_forgetAll 7 = .ok (.putfield 24, 3) := by decide +kernel
theorem dX0_forgetAll_10 : decode cX0_forgetAll 10 = .ok (.return_, 1) := by decide +kernel
theorem dX0_remember_0 : decode cX0_remember 0 = .ok (.aload_n 0, 1) := by decide +kernel
theorem dX0_remember_1 : decode cX0_remember 1 = .ok (.getfield 24, 3) := by decide +kernel
theorem dX0_remember_4 : decode cX0_remember 4 = .ok (.bipush 14, 2) := by decide +kernel
theorem dX0_remember_6 : decode cX0_remember 6 = .ok (.if_icmp .lt 26, 3) := by decide +kernel
theorem dX0_remember_9 : decode cX0_remember 9 = .ok (.aload_n 0, 1) := by decide +kernel
theorem dX0_remember_10 : decode cX0_remember 10 = .ok (.aload_n 0, 1) := by decide +kernel
theorem dX0_remember_11 : decode cX0_remember 11 = .ok (.getfield 20, 3) := by decide +kernel
theorem dX0_remember_14 : decode cX0_remember 14 = .ok (.iconst 1, 1) := by decide +kernel
theorem dX0_remember_15 : decode cX0_remember 15 = .ok (.iadd, 1) := by decide +kernel
theorem dX0_remember_16 : decode cX0_remember 16 = .ok (.bipush 14, 2) := by decide +kernel
theorem dX0_remember_18 : decode cX0_remember 18 = .ok (.irem, 1) := by decide +kernel
theorem dX0_remember_19 : decode cX0_remember 19 = .ok (.putfield 20, 3) := by decide +kernel
theorem dX0_remember_22 : decode cX0_remember 22 = .ok (.aload_n 0, 1) := by decide +kernel
theorem dX0_remember_23 : decode cX0_remember 23 = .ok (.dup, 1) := by decide +kernel
theorem dX0_remember_24 : decode cX0_remember 24 = .ok (.getfield 24, 3) := by decide +kernel
theorem dX0_remember_27 : decode cX0_remember 27 = .ok (.iconst 1, 1) := by decide +kernel
theorem dX0_remember_28 : decode cX0_remember 28 = .ok (.isub, 1) := by decide +kernel
theorem dX0_remember_29 : decode cX0_remember 29 = .ok (.putfield 24, 3) := by decide +kernel
theorem dX0_remember_32 : decode cX0_remember 32 = .ok (.aload_n 0, 1) := by decide +kernel
theorem dX0_remember_33 : decode cX0_remember 33 = .ok (.getfield 11, 3) := by decide +kernel
theorem dX0_remember_36 : decode cX0_remember 36 = .ok (.aload_n 0, 1) := by decide +kernel
theorem dX0_remember_37 : decode cX0_remember 37 = .ok (.getfield 20, 3) := by decide +kernel
theorem dX0_remember_40 : decode cX0_remember 40 = .ok (.aload_n 0, 1) := by decide +kernel
theorem dX0_remember_41 : decode cX0_remember 41 = .ok (.getfield 24, 3) := by decide +kernel
theorem dX0_remember_44 : decode cX0_remember 44 = .ok (.iadd, 1) := by decide +kernel
theorem dX0_remember_45 : decode cX0_remember 45 = .ok (.bipush 14, 2) := by decide +kernel
theorem dX0_remember_47 : decode cX0_remember 47 = .ok (.irem, 1) := by decide +kernel
theorem dX0_remember_48 : decode cX0_remember 48 = .ok (.aaload, 1) := by decide +kernel
theorem dX0_remember_49 : decode cX0_remember 49 = .ok (.aload_n 1, 1) := by decide +kernel
theorem dX0_remember_50 : decode cX0_remember 50 = .ok (.invokevirtual 27, 3) := by decide +kernel
theorem dX0_remember_53 : decode cX0_remember 53 = .ok (.aload_n 0, 1) := by decide +kernel
theorem dX0_remember_54 : decode cX0_remember 54 = .ok (.dup, 1) := by decide +kernel
theorem dX0_remember_55 : decode cX0_remember 55 = .ok (.getfield 24, 3) := by decide +kernel
theorem dX0_remember_58 : decode cX0_remember 58 = .ok (.iconst 1, 1) := by decide +kernel
theorem dX0_remember_59 : decode cX0_remember 59 = .ok (.iadd, 1) := by decide +kernel
theorem dX0_remember_60 : decode cX0_remember 60 = .ok (.putfield 24, 3) := by decide +kernel
theorem dX0_remember_63 : decode cX0_remember 63 = .ok (.return_, 1) := by decide +kernel
theorem dX0_takeBack_0 : decode cX0_takeBack 0 = .ok (.aload_n 0, 1) := by decide +kernel
theorem dX0_takeBack_1 : decode cX0_takeBack 1 = .ok (.getfield 24, 3) := by decide +kernel
theorem dX0_takeBack_4 : decode cX0_takeBack 4 = .ok (.ifCond .le 34, 3) := by decide +kernel
theorem dX0_takeBack_7 : decode cX0_takeBack 7 = .ok (.aload_n 0, 1) := by decide +kernel
theorem dX0_takeBack_8 : decode cX0_takeBack 8 = .ok (.dup, 1) := by decide +kernel
theorem dX0_takeBack_9 : decode cX0_takeBack 9 = .ok (.getfield 24, 3) := by decide +kernel
theorem dX0_takeBack_12 : decode cX0_takeBack 12 = .ok (.iconst 1, 1) := by decide +kernel
theorem dX0_takeBack_13 : decode cX0_takeBack 13 = .ok (.isub, 1) := by decide +kernel
theorem dX0_takeBack_14 : decode cX0_takeBack 14 = .ok (.putfield 24, 3) := by decide +kernel
theorem dX0_takeBack_17 : decode cX0_takeBack 17 = .ok (.aload_n 1, 1) := by decide +kernel
theorem dX0_takeBack_18 : decode cX0_takeBack 18 = .ok (.aload_n 0, 1) := by decide +kernel
theorem dX0_takeBack_19 : decode cX0_takeBack 19 = .ok (.getfield 11, 3) := by decide +kernel
theorem dX0_takeBack_22 : decode cX0_takeBack 22 = .ok (.aload_n 0, 1) := by decide +kernel
theorem dX0_takeBack_23 : decode cX0_takeBack 23 = .ok (.getfield 20, 3) := by decide +kernel
theorem dX0_takeBack_26 : decode cX0_takeBack 26 = .ok (.aload_n 0, 1) := by decide +kernel
theorem dX0_takeBack_27 : decode cX0_takeBack 27 = .ok (.getfield 24, 3) := by decide +kernel
theorem dX0_takeBack_30 : decode cX0_takeBack 30 = .ok (.iadd, 1) := by decide +kernel
theorem dX0_takeBack_31 : decode cX0_takeBack 31 = .ok (.bipush 14, 2) := by decide +kernel
theorem dX0_takeBack_33 : decode cX0_takeBack 33 = .ok (.irem, 1) := by decide +kernel
theorem dX0_takeBack_34 : decode cX0_takeBack 34 = .ok (.aaload, 1) := by decide +kernel
theorem dX0_takeBack_35 : decode cX0_takeBack 35 = .ok (.invokevirtual 27, 3) := by decide +kernel
theorem dX0_takeBack_38 : decode cX0_takeBack 38 = .ok (.return_, 1) := by decide +kernel
theorem dX1_init_0 : decode cX1_init 0 = .ok (.aload_n 0, 1) := by decide +kernel
theorem dX1_init_1 : decode cX1_init 1 = .ok (.invokespecial 3, 3) := by decide +kernel
theorem dX1_init_4 : decode cX1_init 4 = .ok (.aload_n 0, 1) := by decide +kernel
theorem dX1_init_5 : decode cX1_init 5 = .ok (.iconst 4, 1) := by decide +kernel
theorem dX1_init_6 : decode cX1_init 6 = .ok (.newarray .int, 2) := by decide +kernel
theorem dX1_init_8 : decode cX1_init 8 = .ok (.putfield 9, 3) := by decide +kernel
theorem dX1_init_11 : decode cX1_init 11 = .ok (.aload_n 0, 1) := by decide +kernel
theorem dX1_init_12 : decode cX1_init 12 = .ok (.iconst 4, 1) := by decide +kernel
theorem dX1_init_13 : decode cX1_init 13 = .ok (.newarray .int, 2) := by decide +kernel
theorem dX1_init_15 : decode cX1_init 15 = .ok (.putfield 15, 3) := by decide +kernel
theorem dX1_init_18 : decode cX1_init 18 = .ok (.aload_n 0, 1) := by decide +kernel
theorem dX1_init_19 : decode cX1_init 19 = .ok (.iconst 4, 1) := by decide +kernel
theorem dX1_init_20 : decode cX1_init 20 = .ok (.newarray .int, 2) := by decide +kernel
theorem dX1_init_22 : decode cX1_init 22 = .ok (.putfield 18, 3) := by decide +kernel
theorem dX1_init_25 : decode cX1_init 25 = .ok (.aload_n 0, 1) := by decide +kernel
theorem dX1_init_26 : decode cX1_init 26 = .ok (.iconst 5, 1) := by decide +kernel
theorem dX1_init_27 : decode cX1_init 27 = .ok (.newarray .int, 2) := by decide +kernel
theorem dX1_init_29 : decode cX1_init 29 = .ok (.putfield 21, 3) := by decide +kernel
theorem dX1_init_32 : decode cX1_init 32 = .ok (.aload_n 0, 1) := by decide +kernel
theorem dX1_init_33 : decode cX1_init 33 = .ok (.iconst 5, 1) := by decide +kernel
theorem dX1_init_34 : decode cX1_init 34 = .ok (.newarray .int, 2) := by decide +kernel
theorem dX1_init_36 : decode cX1_init 36 = .ok (.putfield 24, 3) := by decide +kernel
theorem dX1_init_39 : decode cX1_init 39 = .ok (.aload_n 0, 1) := by decide +kernel
theorem dX1_init_40 : decode cX1_init 40 = .ok (.iconst 5, 1) := by decide +kernel
theorem dX1_init_41 : decode cX1_init 41 = .ok (.newarray .int, 2) := by decide +kernel
theorem dX1_init_43 : decode cX1_init 43 = .ok (.putfield 27, 3) := by decide +kernel
theorem dX1_init_46 : decode cX1_init 46 = .ok (.return_, 1) := by decide +kernel
theorem dX1_begin_0 : decode cX1_begin 0 = .ok (.aload_n 0, 1) := by decide +kernel
theorem dX1_begin_1 : decode cX1_begin 1 = .ok (.iload_n 1, 1) := by decide +kernel
theorem dX1_begin_2 : decode cX1_begin 2 = .ok (.putfield 30, 3) := by decide +kernel
theorem dX1_begin_5 : decode cX1_begin 5 = .ok (.aload_n 0, 1) := by decide +kernel
theorem dX1_begin_6 : decode cX1_begin 6 = .ok (.iload_n 2, 1) := by decide +kernel
theorem dX1_begin_7 : decode cX1_begin 7 = .ok (.putfield 34, 3) := by decide +kernel
theorem dX1_begin_10 : decode cX1_begin 10 = .ok (.aload_n 0, 1) := by decide +kernel
theorem dX1_begin_11 : decode cX1_begin 11 = .ok (.iconst 0, 1) := by decide +kernel
theorem dX1_begin_12 : decode cX1_begin 12 = .ok (.putfield 37, 3) := by decide +kernel
theorem dX1_begin_15 : decode cX1_begin 15 = .ok (.aload_n 0, 1) := by decide +kernel
theorem dX1_begin_16 : decode cX1_begin 16 = .ok (.iconst 0, 1) := by decide +kernel
theorem dX1_begin_17 : decode cX1_begin 17 = .ok (.putfield 40, 3) := by decide +kernel
theorem dX1_begin_20 : decode cX1_begin 20 = .ok (.return_, 1) := by decide +kernel
theorem dX1_addEnvoy_0 : decode cX1_addEnvoy 0 = .ok (.aload_n 0, 1) := by decide +kernel
theorem dX1_addEnvoy_1 : decode cX1_addEnvoy 1 = .ok (.getfield 37, 3) := by decide +kernel
theorem dX1_addEnvoy_4 : decode cX1_addEnvoy 4 = .ok (.iconst 4, 1) := by decide +kernel
theorem dX1_addEnvoy_5 : decode cX1_addEnvoy 5 = .ok (.if_icmp .ge 43, 3) := by decide +kernel
theorem dX1_addEnvoy_8 : decode cX1_addEnvoy 8 = .ok (.aload_n 0, 1) := by decide +kernel
theorem dX1_addEnvoy_9 : decode cX1_addEnvoy 9 = .ok (.getfield 9, 3) := by decide +kernel
theorem dX1_addEnvoy_12 : decode cX1_addEnvoy 12 = .ok (.aload_n 0, 1) := by decide +kernel
theorem dX1_addEnvoy_13 : decode cX1_addEnvoy 13 = .ok (.getfield 37, 3) := by decide +kernel
theorem dX1_addEnvoy_16 : decode cX1_addEnvoy 16 = .ok (.iload_n 1, 1) := by decide +kernel
theorem dX1_addEnvoy_17 : decode cX1_addEnvoy 17 = .ok (.iastore, 1) := by decide +kernel
theorem dX1_addEnvoy_18 : decode cX1_addEnvoy 18 = .ok (.aload_n 0, 1) := by decide +kernel
theorem dX1_addEnvoy_19 : decode cX1_addEnvoy 19 = .ok (.getfield 15, 3) := by decide +kernel
theorem dX1_addEnvoy_22 : decode cX1_addEnvoy 22 = .ok (.aload_n 0, 1) := by decide +kernel
theorem dX1_addEnvoy_23 : decode cX1_addEnvoy 23 = .ok (.getfield 37, 3) := by decide +kernel
theorem dX1_addEnvoy_26 : decode cX1_addEnvoy 26 = .ok (.iload_n 2, 1) := by decide +kernel
theorem dX1_addEnvoy_27 : decode cX1_addEnvoy 27 = .ok (.iastore, 1) := by decide +kernel
theorem dX1_addEnvoy_28 : decode cX1_addEnvoy 28 = .ok (.aload_n 0, 1) := by decide +kernel
theorem dX1_addEnvoy_29 : decode cX1_addEnvoy 29 = .ok (.getfield 18, 3) := by decide +kernel
theorem dX1_addEnvoy_32 : decode cX1_addEnvoy 32 = .ok (.aload_n 0, 1) := by decide +kernel
theorem dX1_addEnvoy_33 : decode cX1_addEnvoy 33 = .ok (.getfield 37, 3) := by decide +kernel
theorem dX1_addEnvoy_36 : decode cX1_addEnvoy 36 = .ok (.iload_n 3, 1) := by decide +kernel
theorem dX1_addEnvoy_37 : decode cX1_addEnvoy 37 = .ok (.iastore, 1) := by decide +kernel
theorem dX1_addEnvoy_38 : decode cX1_addEnvoy 38 = .ok (.aload_n 0, 1) := by decide +kernel
theorem dX1_addEnvoy_39 : decode cX1_addEnvoy 39 = .ok (.dup, 1) := by decide +kernel
theorem dX1_addEnvoy_40 : decode cX1_addEnvoy 40 = .ok (.getfield 37, 3) := by decide +kernel
theorem dX1_addEnvoy_43 : decode cX1_addEnvoy 43 = .ok (.iconst 1, 1) := by decide +kernel
theorem dX1_addEnvoy_44 : decode cX1_addEnvoy 44 = .ok (.iadd, 1) := by decide +kernel
theorem dX1_addEnvoy_45 : decode cX1_addEnvoy 45 = .ok (.putfield 37, 3) := by decide +kernel
theorem dX1_addEnvoy_48 : decode cX1_addEnvoy 48 = .ok (.return_, 1) := by decide +kernel
theorem dX1_addClause_0 : decode cX1_addClause 0 = .ok (.aload_n 0, 1) := by decide +kernel
theorem dX1_addClause_1 : decode cX1_addClause 1 = .ok (.getfield 40, 3) := by decide +kernel
theorem dX1_addClause_4 : decode cX1_addClause 4 = .ok (.iconst 5, 1) := by decide +kernel
theorem dX1_addClause_5 : decode cX1_addClause 5 = .ok (.if_icmp .ge 43, 3) := by decide +kernel
theorem dX1_addClause_8 : decode cX1_addClause 8 = .ok (.aload_n 0, 1) := by decide +kernel
theorem dX1_addClause_9 : decode cX1_addClause 9 = .ok (.getfield 21, 3) := by decide +kernel
theorem dX1_addClause_12 : decode cX1_addClause 12 = .ok (.aload_n 0, 1) := by decide +kernel
theorem dX1_addClause_13 : decode cX1_addClause 13 = .ok (.getfield 40, 3) := by decide +kernel
theorem dX1_addClause_16 : decode cX1_addClause 16 = .ok (.iload_n 1, 1) := by decide +kernel
theorem dX1_addClause_17 : decode cX1_addClause 17 = .ok (.iastore, 1) := by decide +kernel
theorem dX1_addClause_18 : decode cX1_addClause 18 = .ok (.aload_n 0, 1) := by decide +kernel
theorem dX1_addClause_19 : decode cX1_addClause 19 = .ok (.getfield 24, 3) := by decide +kernel
theorem dX1_addClause_22 : decode cX1_addClause 22 = .ok (.aload_n 0, 1) := by decide +kernel
theorem dX1_addClause_23 : decode cX1_addClause 23 = .ok (.getfield 40, 3) := by decide +kernel
theorem dX1_addClause_26 : decode cX1_addClause 26 = .ok (.iload_n 2, 1) := by decide +kernel
theorem dX1_addClause_27 : decode cX1_addClause 27 = .ok (.iastore, 1) := by decide +kernel
theorem dX1_addClause_28 : decode cX1_addClause 28 = .ok (.aload_n 0, 1) := by decide +kernel
theorem dX1_addClause_29 : decode cX1_addClause 29 = .ok (.getfield 27, 3) := by decide +kernel
theorem dX1_addClause_32 : decode cX1_addClause 32 = .ok (.aload_n 0, 1) := by decide +kernel
theorem dX1_addClause_33 : decode cX1_addClause 33 = .ok (.getfield 40, 3) := by decide +kernel
theorem dX1_addClause_36 : decode cX1_addClause 36 = .ok (.iload_n 3, 1) := by decide +kernel
theorem dX1_addClause_37 : decode cX1_addClause 37 = .ok (.iastore, 1) := by decide +kernel
theorem dX1_addClause_38 : decode cX1_addClause 38 = .ok (.aload_n 0, 1) := by decide +kernel
theorem dX1_addClause_39 : decode cX1_addClause 39 = .ok (.dup, 1) := by decide +kernel
theorem dX1_addClause_40 : decode cX1_addClause 40 = .ok (.getfield 40, 3) := by decide +kernel
theorem dX1_addClause_43 : decode cX1_addClause 43 = .ok (.iconst 1, 1) := by decide +kernel
theorem dX1_addClause_44 : decode cX1_addClause 44 = .ok (.iadd, 1) := by decide +kernel
theorem dX1_addClause_45 : decode cX1_addClause 45 = .ok (.putfield 40, 3) := by decide +kernel
theorem dX1_addClause_48 : decode cX1_addClause 48 = .ok (.return_, 1) := by decide +kernel
theorem dX1_hasEnvoy_0 : decode cX1_hasEnvoy 0 = .ok (.iload_n 1, 1) := by decide +kernel
theorem dX1_hasEnvoy_1 : decode cX1_hasEnvoy 1 = .ok (.ifCond .lt 15, 3) := by decide +kernel
theorem dX1_hasEnvoy_4 : decode cX1_hasEnvoy 4 = .ok (.iload_n 1, 1) := by decide +kernel
theorem dX1_hasEnvoy_5 : decode cX1_hasEnvoy 5 = .ok (.aload_n 0, 1) := by decide +kernel
theorem dX1_hasEnvoy_6 : decode cX1_hasEnvoy 6 = .ok (.getfield 37, 3) := by decide +kernel
theorem dX1_hasEnvoy_9 : decode cX1_hasEnvoy 9 = .ok (.if_icmp .ge 7, 3) := by decide +kernel
theorem dX1_hasEnvoy_12 : decode cX1_hasEnvoy 12 = .ok (.iconst 1, 1) := by decide +kernel
theorem dX1_hasEnvoy_13 : decode cX1_hasEnvoy 13 = .ok (.goto 4, 3) := by decide +kernel
theorem dX1_hasEnvoy_16 : decode cX1_hasEnvoy 16 = .ok (.iconst 0, 1) := by decide +kernel
theorem dX1_hasEnvoy_17 : decode cX1_hasEnvoy 17 = .ok (.ireturn, 1) := by decide +kernel
theorem dX1_hasClause_0 : decode cX1_hasClause 0 = .ok (.iload_n 1, 1) := by decide +kernel
theorem dX1_hasClause_1 : decode cX1_hasClause 1 = .ok (.ifCond .lt 15, 3) := by decide +kernel
theorem dX1_hasClause_4 : decode cX1_hasClause 4 = .ok (.iload_n 1, 1) := by decide +kernel
theorem dX1_hasClause_5 : decode cX1_hasClause 5 = .ok (.aload_n 0, 1) := by decide +kernel
theorem dX1_hasClause_6 : decode cX1_hasClause 6 = .ok (.getfield 40, 3) := by decide +kernel
theorem dX1_hasClause_9 : decode cX1_hasClause 9 = .ok (.if_icmp .ge 7, 3) := by decide +kernel
theorem dX1_hasClause_12 : decode cX1_hasClause 12 = .ok (.iconst 1, 1) := by decide +kernel
theorem dX1_hasClause_13 : decode cX1_hasClause 13 = .ok (.goto 4, 3) := by decide +kernel
theorem dX1_hasClause_16 : decode cX1_hasClause 16 = .ok (.iconst 0, 1) := by decide +kernel
theorem dX1_hasClause_17 : decode cX1_hasClause 17 = .ok (.ireturn, 1) := by decide +kernel
theorem dX1_worth_0 : decode cX1_worth 0 = .ok (.aload_n 0, 1) := by decide +kernel
theorem dX1_worth_1 : decode cX1_worth 1 = .ok (.getfield 21, 3) := by decide +kernel
theorem dX1_worth_4 : decode cX1_worth 4 = .ok (.iload_n 1, 1) := by decide +kernel
theorem dX1_worth_5 : decode cX1_worth 5 = .ok (.iaload, 1) := by decide +kernel
theorem dX1_worth_6 : decode cX1_worth 6 = .ok (.aload_n 0, 1) := by decide +kernel
theorem dX1_worth_7 : decode cX1_worth 7 = .ok (.getfield 24, 3) := by decide +kernel
theorem dX1_worth_10 : decode cX1_worth 10 = .ok (.iload_n 1, 1) := by decide +kernel
theorem dX1_worth_11 : decode cX1_worth 11 = .ok (.iaload, 1) := by decide +kernel
theorem dX1_worth_12 : decode cX1_worth 12 = .ok (.iadd, 1) := by decide +kernel
theorem dX1_worth_13 : decode cX1_worth 13 = .ok (.ireturn, 1) := by decide +kernel
theorem dX1_worthOf_0 : decode cX1_worthOf 0 = .ok (.iconst 0, 1) := by decide +kernel
theorem dX1_worthOf_1 : decode cX1_worthOf 1 = .ok (.istore_n 2, 1) := by decide +kernel
theorem dX1_worthOf_2 : decode cX1_worthOf 2 = .ok (.iconst 0, 1) := by decide +kernel
theorem dX1_worthOf_3 : decode cX1_worthOf 3 = .ok (.istore_n 3, 1) := by decide +kernel
theorem dX1_worthOf_4 : decode cX1_worthOf 4 = .ok (.iload_n 3, 1) := by decide +kernel
theorem dX1_worthOf_5 : decode cX1_worthOf 5 = .ok (.aload_n 0, 1) := by decide +kernel
theorem dX1_worthOf_6 : decode cX1_worthOf 6 = .ok (.getfield 40, 3) := by decide +kernel
theorem dX1_worthOf_9 : decode cX1_worthOf 9 = .ok (.if_icmp .ge 25, 3) := by decide +kernel
theorem dX1_worthOf_12 : decode cX1_worthOf 12 = .ok (.iload_n 1, 1) := by decide +kernel
theorem dX1_worthOf_13 : decode cX1_worthOf 13 = .ok (.iload_n 3, 1) := by decide +kernel
theorem dX1_worthOf_14 : decode cX1_worthOf 14 = .ok (.ishr, 1) := by decide +kernel
theorem dX1_worthOf_15 : decode cX1_worthOf 15 = .ok (.iconst 1, 1) := by decide +kernel
theorem dX1_worthOf_16 : decode cX1_worthOf 16 = .ok (.iand, 1) := by decide +kernel
theorem dX1_worthOf_17 : decode cX1_worthOf 17 = .ok (.ifCond .eq 11, 3) := by decide +kernel
theorem dX1_worthOf_20 : decode cX1_worthOf 20 = .ok (.iload_n 2, 1) := by decide +kernel
theorem dX1_worthOf_21 : decode cX1_worthOf 21 = .ok (.aload_n 0, 1) := by decide +kernel
theorem dX1_worthOf_22 : decode cX1_worthOf 22 = .ok (.iload_n 3, 1) := by decide +kernel
theorem dX1_worthOf_23 : decode cX1_worthOf 23 = .ok (.invokevirtual 43, 3) := by decide +kernel
theorem dX1_worthOf_26 : decode cX1_worthOf 26 = .ok (.iadd, 1) := by decide +kernel
theorem dX1_worthOf_27 : decode cX1_worthOf 27 = .ok (.istore_n 2, 1) := by decide +kernel
theorem dX1_worthOf_28 : decode cX1_worthOf 28 = .ok (.iinc 3 1, 3) := by decide +kernel
theorem dX1_worthOf_31 : decode cX1_worthOf 31 = .ok (.goto (-27), 3) := by decide +kernel
theorem dX1_worthOf_34 : decode cX1_worthOf 34 = .ok (.iload_n 2, 1) := by decide +kernel
theorem dX1_worthOf_35 : decode cX1_worthOf 35 = .ok (.ireturn, 1) := by decide +kernel
theorem dX1_clausesOf_0 : decode cX1_clausesOf 0 = .ok (.iconst 0, 1) := by decide +kernel
theorem dX1_clausesOf_1 : decode cX1_clausesOf 1 = .ok (.istore_n 2, 1) := by decide +kernel
theorem dX1_clausesOf_2 : decode cX1_clausesOf 2 = .ok (.iconst 0, 1) := by decide +kernel
theorem dX1_clausesOf_3 : decode cX1_clausesOf 3 = .ok (.istore_n 3, 1) := by decide +kernel
theorem dX1_clausesOf_4 : decode cX1_clausesOf 4 = .ok (.iload_n 3, 1) := by decide +kernel
theorem dX1_clausesOf_5 : decode cX1_clausesOf 5 = .ok (.aload_n 0, 1) := by decide +kernel
theorem dX1_clausesOf_6 : decode cX1_clausesOf 6 = .ok (.getfield 40, 3) := by decide +kernel
theorem dX1_clausesOf_9 : decode cX1_clausesOf 9 = .ok (.if_icmp .ge 28, 3) := by decide +kernel
theorem dX1_clausesOf_12 : decode cX1_clausesOf 12 = .ok (.iload_n 1, 1) := by decide +kernel
theorem dX1_clausesOf_13 : decode cX1_clausesOf 13 = .ok (.aload_n 0, 1) := by decide +kernel
theorem dX1_clausesOf_14 : decode cX1_clausesOf 14 = .ok (.getfield 27, 3) := by decide +kernel
theorem dX1_clausesOf_17 : decode cX1_clausesOf 17 = .ok (.iload_n 3, 1) := by decide +kernel
theorem dX1_clausesOf_18 : decode cX1_clausesOf 18 = .ok (.iaload, 1) := by decide +kernel
theorem dX1_clausesOf_19 : decode cX1_clausesOf 19 = .ok (.ishr, 1) := by decide +kernel
theorem dX1_clausesOf_20 : decode cX1_clausesOf 20 = .ok (.iconst 1, 1) := by decide +kernel
theorem dX1_clausesOf_21 : decode cX1_clausesOf 21 = .ok (.iand, 1) := by decide +kernel
theorem dX1_clausesOf_22 : decode cX1_clausesOf 22 = .ok (.ifCond .eq 9, 3) := by decide +kernel
theorem dX1_clausesOf_25 : decode cX1_clausesOf 25 = .ok (.iload_n 2, 1) := by decide +kernel
theorem dX1_clausesOf_26 : decode cX1_clausesOf 26 = .ok (.iconst 1, 1) := by decide +kernel
theorem dX1_clausesOf_27 : decode cX1_clausesOf 27 = .ok (.iload_n 3, 1) := by decide +kernel
theorem dX1_clausesOf_28 : decode cX1_clausesOf 28 = .ok (.ishl, 1) := by decide +kernel
theorem dX1_clausesOf_29 : decode cX1_clausesOf 29 = .ok (.ior, 1) := by decide +kernel
theorem dX1_clausesOf_30 : decode cX1_clausesOf 30 = .ok (.istore_n 2, 1) := by decide +kernel
theorem dX1_clausesOf_31 : decode cX1_clausesOf 31 = .ok (.iinc 3 1, 3) := by decide +kernel
theorem dX1_clausesOf_34 : decode cX1_clausesOf 34 = .ok (.goto (-30), 3) := by decide +kernel
theorem dX1_clausesOf_37 : decode cX1_clausesOf 37 = .ok (.iload_n 2, 1) := by decide +kernel
theorem dX1_clausesOf_38 : decode cX1_clausesOf 38 = .ok (.ireturn, 1) := by decide +kernel
theorem dX1_tearsToStop_0 : decode cX1_tearsToStop 0 = .ok (.iconst 2, 1) := by decide +kernel
theorem dX1_tearsToStop_1 : decode cX1_tearsToStop 1 = .ok (.aload_n 0, 1) := by decide +kernel
theorem dX1_tearsToStop_2 : decode cX1_tearsToStop 2 = .ok (.getfield 15, 3) := by decide +kernel
theorem dX1_tearsToStop_5 : decode cX1_tearsToStop 5 = .ok (.iload_n 1, 1) := by decide +kernel
theorem dX1_tearsToStop_6 : decode cX1_tearsToStop 6 = .ok (.iaload, 1) := by decide +kernel
theorem dX1_tearsToStop_7 : decode cX1_tearsToStop 7 = .ok (.imul, 1) := by decide +kernel
theorem dX1_tearsToStop_8 : decode cX1_tearsToStop 8 = .ok (.ireturn, 1) := by decide +kernel
theorem dX1_pain_0 : decode cX1_pain 0 = .ok (.aload_n 0, 1) := by decide +kernel
theorem dX1_pain_1 : decode cX1_pain 1 = .ok (.getfield 18, 3) := by decide +kernel
theorem dX1_pain_4 : decode cX1_pain 4 = .ok (.iload_n 1, 1) := by decide +kernel
theorem dX1_pain_5 : decode cX1_pain 5 = .ok (.iaload, 1) := by decide +kernel
theorem dX1_pain_6 : decode cX1_pain 6 = .ok (.aload_n 0, 1) := by decide +kernel
theorem dX1_pain_7 : decode cX1_pain 7 = .ok (.getfield 9, 3) := by decide +kernel
theorem dX1_pain_10 : decode cX1_pain 10 = .ok (.iload_n 1, 1) := by decide +kernel
theorem dX1_pain_11 : decode cX1_pain 11 = .ok (.iaload, 1) := by decide +kernel
theorem dX1_pain_12 : decode cX1_pain 12 = .ok (.iload_n 2, 1) := by decide +kernel
theorem dX1_pain_13 : decode cX1_pain 13 = .ok (.invokestatic 47, 3) := by decide +kernel
theorem dX1_pain_16 : decode cX1_pain 16 = .ok (.ireturn, 1) := by decide +kernel
theorem dX1_painFor_0 : decode cX1_painFor 0 = .ok (.iconst 0, 1) := by decide +kernel
theorem dX1_painFor_1 : decode cX1_painFor 1 = .ok (.iload_n 2, 1) := by decide +kernel
theorem dX1_painFor_2 : decode cX1_painFor 2 = .ok (.iload_n 1, 1) := by decide +kernel
theorem dX1_painFor_3 : decode cX1_painFor 3 = .ok (.isub, 1) := by decide +kernel
theorem dX1_painFor_4 : decode cX1_painFor 4 = .ok (.invokestatic 51, 3) := by decide +kernel
theorem dX1_painFor_7 : decode cX1_painFor 7 = .ok (.istore_n 3, 1) := by decide +kernel
theorem dX1_painFor_8 : decode cX1_painFor 8 = .ok (.iload_n 0, 1) := by decide +kernel
theorem dX1_painFor_9 : decode cX1_painFor 9 = .ok (.tableswitch 49 1 3 #[27, 29, 41], 27) := by decide +kernel
theorem dX1_painFor_36 : decode cX1_painFor 36 = .ok (.iconst 0, 1) := by decide +kernel
theorem dX1_painFor_37 : decode cX1_painFor 37 = .ok (.ireturn, 1) := by decide +kernel
theorem dX1_painFor_38 : decode cX1_painFor 38 = .ok (.iload_n 3, 1) := by decide +kernel
theorem dX1_painFor_39 : decode cX1_painFor 39 = .ok (.ifCond .le 9, 3) := by decide +kernel
theorem dX1_painFor_42 : decode cX1_painFor 42 = .ok (.iload_n 3, 1) := by decide +kernel
theorem dX1_painFor_43 : decode cX1_painFor 43 = .ok (.iconst 1, 1) := by decide +kernel
theorem dX1_painFor_44 : decode cX1_painFor 44 = .ok (.iadd, 1) := by decide +kernel
theorem dX1_painFor_45 : decode cX1_painFor 45 = .ok (.goto 4, 3) := by decide +kernel
theorem dX1_painFor_48 : decode cX1_painFor 48 = .ok (.iconst 0, 1) := by decide +kernel
theorem dX1_painFor_49 : decode cX1_painFor 49 = .ok (.ireturn, 1) := by decide +kernel
theorem dX1_painFor_50 : decode cX1_painFor 50 = .ok (.iconst 0, 1) := by decide +kernel
theorem dX1_painFor_51 : decode cX1_painFor 51 = .ok (.iload_n 3, 1) := by decide +kernel
theorem dX1_painFor_52 : decode cX1_painFor 52 = .ok (.iconst 1, 1) := by decide +kernel
theorem dX1_painFor_53 : decode cX1_painFor 53 = .ok (.isub, 1) := by decide +kernel
theorem dX1_painFor_54 : decode cX1_painFor 54 = .ok (.invokestatic 51, 3) := by decide +kernel
theorem dX1_painFor_57 : decode cX1_painFor 57 = .ok (.ireturn, 1) := by decide +kernel
theorem dX1_painFor_58 : decode cX1_painFor 58 = .ok (.iload_n 3, 1) := by decide +kernel
theorem dX1_painFor_59 : decode cX1_painFor 59 = .ok (.ireturn, 1) := by decide +kernel
theorem dX1_wordsAt_0 : decode cX1_wordsAt 0 = .ok (.iconst 4, 1) := by decide +kernel
theorem dX1_wordsAt_1 : decode cX1_wordsAt 1 = .ok (.iload_n 0, 1) := by decide +kernel
theorem dX1_wordsAt_2 : decode cX1_wordsAt 2 = .ok (.iconst 3, 1) := by decide +kernel
theorem dX1_wordsAt_3 : decode cX1_wordsAt 3 = .ok (.idiv, 1) := by decide +kernel
theorem dX1_wordsAt_4 : decode cX1_wordsAt 4 = .ok (.isub, 1) := by decide +kernel
theorem dX1_wordsAt_5 : decode cX1_wordsAt 5 = .ok (.ireturn, 1) := by decide +kernel
theorem dX2_init_0 : decode cX2_init 0 = .ok (.aload_n 0, 1) := by decide +kernel
theorem dX2_init_1 : decode cX2_init 1 = .ok (.invokespecial 3, 3) := by decide +kernel
theorem dX2_init_4 : decode cX2_init 4 = .ok (.aload_n 0, 1) := by decide +kernel
theorem dX2_init_5 : decode cX2_init 5 = .ok (.bipush 48, 2) := by decide +kernel
theorem dX2_init_7 : decode cX2_init 7 = .ok (.newarray .int, 2) := by decide +kernel
theorem dX2_init_9 : decode cX2_init 9 = .ok (.putfield 9, 3) := by decide +kernel
theorem dX2_init_12 : decode cX2_init 12 = .ok (.return_, 1) := by decide +kernel
theorem dX2_append_0 : decode cX2_append 0 = .ok (.aload_n 0, 1) := by decide +kernel
theorem dX2_append_1 : decode cX2_append 1 = .ok (.getfield 15, 3) := by decide +kernel
theorem dX2_append_4 : decode cX2_append 4 = .ok (.bipush 48, 2) := by decide +kernel
theorem dX2_append_6 : decode cX2_append 6 = .ok (.if_icmp .ge 23, 3) := by decide +kernel
theorem dX2_append_9 : decode cX2_append 9 = .ok (.aload_n 0, 1) := by decide +kernel
theorem dX2_append_10 : decode cX2_append 10 = .ok (.getfield 9, 3) := by decide +kernel
theorem dX2_append_13 : decode cX2_append 13 = .ok (.aload_n 0, 1) := by decide +kernel
theorem dX2_append_14 : decode cX2_append 14 = .ok (.getfield 15, 3) := by decide +kernel
theorem dX2_append_17 : decode cX2_append 17 = .ok (.iload_n 1, 1) := by decide +kernel
theorem dX2_append_18 : decode cX2_append 18 = .ok (.iastore, 1) := by decide +kernel
theorem dX2_append_19 : decode cX2_append 19 = .ok (.aload_n 0, 1) := by decide +kernel
theorem dX2_append_20 : decode cX2_append 20 = .ok (.dup, 1) := by decide +kernel
theorem dX2_append_21 : decode cX2_append 21 = .ok (.getfield 15, 3) := by decide +kernel
theorem dX2_append_24 : decode cX2_append 24 = .ok (.iconst 1, 1) := by decide +kernel
theorem dX2_append_25 : decode cX2_append 25 = .ok (.iadd, 1) := by decide +kernel
theorem dX2_append_26 : decode cX2_append 26 = .ok (.putfield 15, 3) := by decide +kernel
theorem dX2_append_29 : decode cX2_append 29 = .ok (.return_, 1) := by decide +kernel
theorem dX2_firstFault_0 : decode cX2_firstFault 0 = .ok (.iconst 0, 1) := by decide +kernel
theorem dX2_firstFault_1 : decode cX2_firstFault 1 = .ok (.istore_n 1, 1) := by decide +kernel
theorem dX2_firstFault_2 : decode cX2_firstFault 2 = .ok (.iconst 0, 1) := by decide +kernel
theorem dX2_firstFault_3 : decode cX2_firstFault 3 = .ok (.istore_n 2, 1) := by decide +kernel
theorem dX2_firstFault_4 : decode cX2_firstFault 4 = .ok (.iconst 0, 1) := by decide +kernel
theorem dX2_firstFault_5 : decode cX2_firstFault 5 = .ok (.istore_n 3, 1) := by decide +kernel
theorem dX2_firstFault_6 : decode cX2_firstFault 6 = .ok (.iload_n 3, 1) := by decide +kernel
theorem dX2_firstFault_7 : decode cX2_firstFault 7 = .ok (.aload_n 0, 1) := by decide +kernel
theorem dX2_firstFault_8 : decode cX2_firstFault 8 = .ok (.getfield 15, 3) := by decide +kernel
theorem dX2_firstFault_11 : decode cX2_firstFault 11 = .ok (.if_icmp .ge 52, 3) := by decide +kernel
theorem dX2_firstFault_14 : decode cX2_firstFault 14 = .ok (.aload_n 0, 1) := by decide +kernel
theorem dX2_firstFault_15 : decode cX2_firstFault 15 = .ok (.iload_n 3, 1) := by decide +kernel
theorem dX2_firstFault_16 : decode cX2_firstFault 16 = .ok (.iload_n 1, 1) := by decide +kernel
theorem dX2_firstFault_17 : decode cX2_firstFault 17 = .ok (.iload_n 2, 1) := by decide +kernel
theorem dX2_firstFault_18 : decode cX2_firstFault 18 = .ok (.invokevirtual 19, 3) := by decide +kernel
theorem dX2_firstFault_21 : decode cX2_firstFault 21 = .ok (.ifCond .ne 5, 3) := by decide +kernel
theorem dX2_firstFault_24 : decode cX2_firstFault 24 = .ok (.iload_n 3, 1) := by decide +kernel
theorem dX2_firstFault_25 : decode cX2_firstFault 25 = .ok (.ireturn, 1) := by decide +kernel
theorem dX2_firstFault_26 : decode cX2_firstFault 26 = .ok (.iload_n 3, 1) := by decide +kernel
theorem dX2_firstFault_27 : decode cX2_firstFault 27 = .ok (.invokestatic 23, 3) := by decide +kernel
theorem dX2_firstFault_30 : decode cX2_firstFault 30 = .ok (.ifCond .eq 27, 3) := by decide +kernel
theorem dX2_firstFault_33 : decode cX2_firstFault 33 = .ok (.aload_n 0, 1) := by decide +kernel
theorem dX2_firstFault_34 : decode cX2_firstFault 34 = .ok (.getfield 9, 3) := by decide +kernel
theorem dX2_firstFault_37 : decode cX2_firstFault 37 = .ok (.iload_n 3, 1) := by decide +kernel
theorem dX2_firstFault_38 : decode cX2_firstFault 38 = .ok (.iconst 4, 1) := by decide +kernel
theorem dX2_firstFault_39 : decode cX2_firstFault 39 = .ok (.isub, 1) := by decide +kernel
theorem dX2_firstFault_40 : decode cX2_firstFault 40 = .ok (.iconst 1, 1) := by decide +kernel
theorem dX2_firstFault_41 : decode cX2_firstFault 41 = .ok (.iadd, 1) := by decide +kernel
theorem dX2_firstFault_42 : decode cX2_firstFault 42 = .ok (.iaload, 1) := by decide +kernel
theorem dX2_firstFault_43 : decode cX2_firstFault 43 = .ok (.bipush 69, 2) := by decide +kernel
theorem dX2_firstFault_45 : decode cX2_firstFault 45 = .ok (.if_icmp .ne 9, 3) := by decide +kernel
theorem dX2_firstFault_48 : decode cX2_firstFault 48 = .ok (.iinc 1 1, 3) := by decide +kernel
theorem dX2_firstFault_51 : decode cX2_firstFault 51 = .ok (.goto 6, 3) := by decide +kernel
theorem dX2_firstFault_54 : decode cX2_firstFault 54 = .ok (.iinc 2 1, 3) := by decide +kernel
theorem dX2_firstFault_57 : decode cX2_firstFault 57 = .ok (.iinc 3 1, 3) := by decide +kernel
theorem dX2_firstFault_60 : decode cX2_firstFault 60 = .ok (.goto (-54), 3) := by decide +kernel
theorem dX2_firstFault_63 : decode cX2_firstFault 63 = .ok (.aload_n 0, 1) := by decide +kernel
theorem dX2_firstFault_64 : decode cX2_firstFault 64 = .ok (.getfield 15, 3) := by decide +kernel
theorem dX2_firstFault_67 : decode cX2_firstFault 67 = .ok (.iconst 3, 1) := by decide +kernel
theorem dX2_firstFault_68 : decode cX2_firstFault 68 = .ok (.if_icmp .lt 19, 3) := by decide +kernel
theorem dX2_firstFault_71 : decode cX2_firstFault 71 = .ok (.aload_n 0, 1) := by decide +kernel
theorem dX2_firstFault_72 : decode cX2_firstFault 72 = .ok (.getfield 15, 3) := by decide +kernel
theorem dX2_firstFault_75 : decode cX2_firstFault 75 = .ok (.iconst 3, 1) := by decide +kernel
theorem dX2_firstFault_76 : decode cX2_firstFault 76 = .ok (.isub, 1) := by decide +kernel
theorem dX2_firstFault_77 : decode cX2_firstFault 77 = .ok (.iconst 4, 1) := by decide +kernel
theorem dX2_firstFault_78 : decode cX2_firstFault 78 = .ok (.irem, 1) := by decide +kernel
theorem dX2_firstFault_79 : decode cX2_firstFault 79 = .ok (.ifCond .ne 8, 3) := by decide +kernel
theorem dX2_firstFault_82 : decode cX2_firstFault 82 = .ok (.bipush (-9), 2) := by decide +kernel
theorem dX2_firstFault_84 : decode cX2_firstFault 84 = .ok (.goto 7, 3) := by decide +kernel
theorem dX2_firstFault_87 : decode cX2_firstFault 87 = .ok (.aload_n 0, 1) := by decide +kernel
theorem dX2_firstFault_88 : decode cX2_firstFault 88 = .ok (.getfield 15, 3) := by decide +kernel
theorem dX2_firstFault_91 : decode cX2_firstFault 91 = .ok (.ireturn, 1) := by decide +kernel
theorem dX2_isAtEndOfPart_0 : decode cX2_isAtEndOfPart 0 = .ok (.iload_n 0, 1) := by decide +kernel
theorem dX2_isAtEndOfPart_1 : decode cX2_isAtEndOfPart 1 = .ok (.iconst 3, 1) := by decide +kernel
theorem dX2_isAtEndOfPart_2 : decode cX2_isAtEndOfPart 2 = .ok (.if_icmp .lt 16, 3) := by decide +kernel
theorem dX2_isAtEndOfPart_5 : decode cX2_isAtEndOfPart 5 = .ok (.iload_n 0, 1) := by decide +kernel
theorem dX2_isAtEndOfPart_6 : decode cX2_isAtEndOfPart 6 = .ok (.iconst 3, 1) := by decide +kernel
theorem dX2_isAtEndOfPart_7 : decode cX2_isAtEndOfPart 7 = .ok (.isub, 1) := by decide +kernel
theorem dX2_isAtEndOfPart_8 : decode cX2_isAtEndOfPart 8 = .ok (.iconst 4, 1) := by decide +kernel
theorem dX2_isAtEndOfPart_9 : decode cX2_isAtEndOfPart 9 = .ok (.irem, 1) := by decide +kernel
theorem dX2_isAtEndOfPart_10 : decode cX2_isAtEndOfPart 10 = .ok (.iconst 3, 1) := by decide +kernel
theorem dX2_isAtEndOfPart_11 : decode cX2_isAtEndOfPart 11 = .ok (.if_icmp .ne 7, 3) := by decide +kernel
theorem dX2_isAtEndOfPart_14 : decode cX2_isAtEndOfPart 14 = .ok (.iconst 1, 1) := by decide +kernel
theorem dX2_isAtEndOfPart_15 : decode cX2_isAtEndOfPart 15 = .ok (.goto 4, 3) := by decide +kernel
theorem dX2_isAtEndOfPart_18 : decode cX2_isAtEndOfPart 18 = .ok (.iconst 0, 1) := by decide +kernel
theorem dX2_isAtEndOfPart_19 : decode cX2_isAtEndOfPart 19 = .ok (.ireturn, 1) := by decide +kernel
theorem dX2_fits_0 : decode cX2_fits 0 = .ok (.aload_n 0, 1) := by decide +kernel
theorem dX2_fits_1 : decode cX2_fits 1 = .ok (.getfield 9, 3) := by decide +kernel
theorem dX2_fits_4 : decode cX2_fits 4 = .ok (.iload_n 1, 1) := by decide +kernel
theorem dX2_fits_5 : decode cX2_fits 5 = .ok (.iaload, 1) := by decide +kernel
theorem dX2_fits_6 : decode cX2_fits 6 = .ok (.istore 4, 2) := by decide +kernel
theorem dX2_fits_8 : decode cX2_fits 8 = .ok (.iload_n 1, 1) := by decide +kernel
theorem dX2_fits_9 : decode cX2_fits 9 = .ok (.ifCond .ne 16, 3) := by decide +kernel
theorem dX2_fits_12 : decode cX2_fits 12 = .ok (.iload 4, 2) := by decide +kernel
theorem dX2_fits_14 : decode cX2_fits 14 = .ok (.bipush 77, 2) := by decide +kernel
theorem dX2_fits_16 : decode cX2_fits 16 = .ok (.if_icmp .ne 7, 3) := by decide +kernel
theorem dX2_fits_19 : decode cX2_fits 19 = .ok (.iconst 1, 1) := by decide +kernel
theorem dX2_fits_20 : decode cX2_fits 20 = .ok (.goto 4, 3) := by decide +kernel
theorem dX2_fits_23 : decode cX2_fits 23 = .ok (.iconst 0, 1) := by decide +kernel
theorem dX2_fits_24 : decode cX2_fits 24 = .ok (.ireturn, 1) := by decide +kernel
theorem dX2_fits_25 : decode cX2_fits 25 = .ok (.iload_n 1, 1) := by decide +kernel
theorem dX2_fits_26 : decode cX2_fits 26 = .ok (.iconst 3, 1) := by decide +kernel
theorem dX2_fits_27 : decode cX2_fits 27 = .ok (.if_icmp .ge 12, 3) := by decide +kernel
theorem dX2_fits_30 : decode cX2_fits 30 = .ok (.iload 4, 2) := by decide +kernel
theorem dX2_fits_32 : decode cX2_fits 32 = .ok (.iconst 0, 1) := by decide +kernel
theorem dX2_fits_33 : decode cX2_fits 33 = .ok (.bipush 9, 2) := by decide +kernel
theorem dX2_fits_35 : decode cX2_fits 35 = .ok (.invokestatic 27, 3) := by decide +kernel
theorem dX2_fits_38 : decode cX2_fits 38 = .ok (.ireturn, 1) := by decide +kernel
theorem dX2_fits_39 : decode cX2_fits 39 = .ok (.iload_n 1, 1) := by decide +kernel
theorem dX2_fits_40 : decode cX2_fits 40 = .ok (.iconst 3, 1) := by decide +kernel
theorem dX2_fits_41 : decode cX2_fits 41 = .ok (.isub, 1) := by decide +kernel
theorem dX2_fits_42 : decode cX2_fits 42 = .ok (.iconst 4, 1) := by decide +kernel
theorem dX2_fits_43 : decode cX2_fits 43 = .ok (.irem, 1) := by decide +kernel
theorem dX2_fits_44 : decode cX2_fits 44 = .ok (.istore 5, 2) := by decide +kernel
theorem dX2_fits_46 : decode cX2_fits 46 = .ok (.iload 5, 2) := by decide +kernel
theorem dX2_fits_48 : decode cX2_fits 48 = .ok (.ifCond .ne 37, 3) := by decide +kernel
theorem dX2_fits_51 : decode cX2_fits 51 = .ok (.iload 4, 2) := by decide +kernel
theorem dX2_fits_53 : decode cX2_fits 53 = .ok (.bipush 69, 2) := by decide +kernel
theorem dX2_fits_55 : decode cX2_fits 55 = .ok (.if_icmp .ne 8, 3) := by decide +kernel
theorem dX2_fits_58 : decode cX2_fits 58 = .ok (.iload_n 2, 1) := by decide +kernel
theorem dX2_fits_59 : decode cX2_fits 59 = .ok (.iconst 4, 1) := by decide +kernel
theorem dX2_fits_60 : decode cX2_fits 60 = .ok (.if_icmp .lt 19, 3) := by decide +kernel
theorem dX2_fits_63 : decode cX2_fits 63 = .ok (.iload 4, 2) := by decide +kernel
theorem dX2_fits_65 : decode cX2_fits 65 = .ok (.bipush 67, 2) := by decide +kernel
theorem dX2_fits_67 : decode cX2_fits 67 = .ok (.if_icmp .ne 16, 3) := by decide +kernel
theorem dX2_fits_70 : decode cX2_fits 70 = .ok (.iload_n 3, 1) := by decide +kernel
theorem dX2_fits_71 : decode cX2_fits 71 = .ok (.iconst 5, 1) := by decide +kernel
theorem dX2_fits_72 : decode cX2_fits 72 = .ok (.if_icmp .ge 11, 3) := by decide +kernel
theorem dX2_fits_75 : decode cX2_fits 75 = .ok (.iload_n 2, 1) := by decide +kernel
theorem dX2_fits_76 : decode cX2_fits 76 = .ok (.ifCond .le 7, 3) := by decide +kernel
theorem dX2_fits_79 : decode cX2_fits 79 = .ok (.iconst 1, 1) := by decide +kernel
theorem dX2_fits_80 : decode cX2_fits 80 = .ok (.goto 4, 3) := by decide +kernel
theorem dX2_fits_83 : decode cX2_fits 83 = .ok (.iconst 0, 1) := by decide +kernel
theorem dX2_fits_84 : decode cX2_fits 84 = .ok (.ireturn, 1) := by decide +kernel
theorem dX2_fits_85 : decode cX2_fits 85 = .ok (.aload_n 0, 1) := by decide +kernel
theorem dX2_fits_86 : decode cX2_fits 86 = .ok (.getfield 9, 3) := by decide +kernel
theorem dX2_fits_89 : decode cX2_fits 89 = .ok (.iload_n 1, 1) := by decide +kernel
theorem dX2_fits_90 : decode cX2_fits 90 = .ok (.iload 5, 2) := by decide +kernel
theorem dX2_fits_92 : decode cX2_fits 92 = .ok (.isub, 1) := by decide +kernel
theorem dX2_fits_93 : decode cX2_fits 93 = .ok (.iaload, 1) := by decide +kernel
theorem dX2_fits_94 : decode cX2_fits 94 = .ok (.bipush 69, 2) := by decide +kernel
theorem dX2_fits_96 : decode cX2_fits 96 = .ok (.if_icmp .ne 13, 3) := by decide +kernel
theorem dX2_fits_99 : decode cX2_fits 99 = .ok (.iload 5, 2) := by decide +kernel
theorem dX2_fits_101 : decode cX2_fits 101 = .ok (.iload 4, 2) := by decide +kernel
theorem dX2_fits_103 : decode cX2_fits 103 = .ok (.invokestatic 30, 3) := by decide +kernel
theorem dX2_fits_106 : decode cX2_fits 106 = .ok (.goto 11, 3) := by decide +kernel
theorem dX2_fits_109 : decode cX2_fits 109 = .ok (.iload 5, 2) := by decide +kernel
theorem dX2_fits_111 : decode cX2_fits 111 = .ok (.iload 4, 2) := by decide +kernel
theorem dX2_fits_113 : decode cX2_fits 113 = .ok (.iload_n 2, 1) := by decide +kernel
theorem dX2_fits_114 : decode cX2_fits 114 = .ok (.invokestatic 34, 3) := by decide +kernel
theorem dX2_fits_117 : decode cX2_fits 117 = .ok (.ireturn, 1) := by decide +kernel
theorem dX2_fitsEnvoy_0 : decode cX2_fitsEnvoy 0 = .ok (.iload_n 0, 1) := by decide +kernel
theorem dX2_fitsEnvoy_1 : decode cX2_fitsEnvoy 1 = .ok (.lookupswitch 43 #[(1, 27), (2, 35)], 27) := by decide +kernel
theorem dX2_fitsEnvoy_28 : decode cX2_fitsEnvoy 28 = .ok (.iload_n 1, 1) := by decide +kernel
theorem dX2_fitsEnvoy_29 : decode cX2_fitsEnvoy 29 = .ok (.iconst 0, 1) := by decide +kernel
theorem dX2_fitsEnvoy_30 : decode cX2_fitsEnvoy 30 = .ok (.bipush 9, 2) := by decide +kernel
theorem dX2_fitsEnvoy_32 : decode cX2_fitsEnvoy 32 = .ok (.invokestatic 27, 3) := by decide +kernel
theorem dX2_fitsEnvoy_35 : decode cX2_fitsEnvoy 35 = .ok (.ireturn, 1) := by decide +kernel
theorem dX2_fitsEnvoy_36 : decode cX2_fitsEnvoy 36 = .ok (.iload_n 1, 1) := by decide +kernel
theorem dX2_fitsEnvoy_37 : decode cX2_fitsEnvoy 37 = .ok (.iconst 1, 1) := by decide +kernel
theorem dX2_fitsEnvoy_38 : decode cX2_fitsEnvoy 38 = .ok (.bipush 9, 2) := by decide +kernel
theorem dX2_fitsEnvoy_40 : decode cX2_fitsEnvoy 40 = .ok (.invokestatic 27, 3) := by decide +kernel
theorem dX2_fitsEnvoy_43 : decode cX2_fitsEnvoy 43 = .ok (.ireturn, 1) := by decide +kernel
theorem dX2_fitsEnvoy_44 : decode cX2_fitsEnvoy 44 = .ok (.iload_n 1, 1) := by decide +kernel
theorem dX2_fitsEnvoy_45 : decode cX2_fitsEnvoy 45 = .ok (.iconst 0, 1) := by decide +kernel
theorem dX2_fitsEnvoy_46 : decode cX2_fitsEnvoy 46 = .ok (.iconst 3, 1) := by decide +kernel
theorem dX2_fitsEnvoy_47 : decode cX2_fitsEnvoy 47 = .ok (.invokestatic 27, 3) := by decide +kernel
theorem dX2_fitsEnvoy_50 : decode cX2_fitsEnvoy 50 = .ok (.ireturn, 1) := by decide +kernel
theorem dX2_fitsClause_0 : decode cX2_fitsClause 0 = .ok (.iload_n 0, 1) := by decide +kernel
theorem dX2_fitsClause_1 : decode cX2_fitsClause 1 = .ok (.lookupswitch 42 #[(1, 27), (2, 34)], 27) := by decide +kernel
theorem dX2_fitsClause_28 : decode cX2_fitsClause 28 = .ok (.iload_n 1, 1) := by decide +kernel
theorem dX2_fitsClause_29 : decode cX2_fitsClause 29 = .ok (.iconst 1, 1) := by decide +kernel
theorem dX2_fitsClause_30 : decode cX2_fitsClause 30 = .ok (.iconst 4, 1) := by decide +kernel
theorem dX2_fitsClause_31 : decode cX2_fitsClause 31 = .ok (.invokestatic 27, 3) := by decide +kernel
theorem dX2_fitsClause_34 : decode cX2_fitsClause 34 = .ok (.ireturn, 1) := by decide +kernel
theorem dX2_fitsClause_35 : decode cX2_fitsClause 35 = .ok (.iload_n 1, 1) := by decide +kernel
theorem dX2_fitsClause_36 : decode cX2_fitsClause 36 = .ok (.iconst 0, 1) := by decide +kernel
theorem dX2_fitsClause_37 : decode cX2_fitsClause 37 = .ok (.bipush 9, 2) := by decide +kernel
theorem dX2_fitsClause_39 : decode cX2_fitsClause 39 = .ok (.invokestatic 27, 3) := by decide +kernel
theorem dX2_fitsClause_42 : decode cX2_fitsClause 42 = .ok (.ireturn, 1) := by decide +kernel
theorem dX2_fitsClause_43 : decode cX2_fitsClause 43 = .ok (.iload_n 1, 1) := by decide +kernel
theorem dX2_fitsClause_44 : decode cX2_fitsClause 44 = .ok (.iconst 0, 1) := by decide +kernel
theorem dX2_fitsClause_45 : decode cX2_fitsClause 45 = .ok (.iload_n 2, 1) := by decide +kernel
theorem dX2_fitsClause_46 : decode cX2_fitsClause 46 = .ok (.iconst 1, 1) := by decide +kernel
theorem dX2_fitsClause_47 : decode cX2_fitsClause 47 = .ok (.isub, 1) := by decide +kernel
theorem dX2_fitsClause_48 : decode cX2_fitsClause 48 = .ok (.invokestatic 27, 3) := by decide +kernel
theorem dX2_fitsClause_51 : decode cX2_fitsClause 51 = .ok (.ireturn, 1) := by decide +kernel
theorem dX2_isFigure_0 : decode cX2_isFigure 0 = .ok (.iload_n 0, 1) := by decide +kernel
theorem dX2_isFigure_1 : decode cX2_isFigure 1 = .ok (.bipush 48, 2) := by decide +kernel
theorem dX2_isFigure_3 : decode cX2_isFigure 3 = .ok (.iload_n 1, 1) := by decide +kernel
theorem dX2_isFigure_4 : decode cX2_isFigure 4 = .ok (.iadd, 1) := by decide +kernel
theorem dX2_isFigure_5 : decode cX2_isFigure 5 = .ok (.if_icmp .lt 15, 3) := by decide +kernel
theorem dX2_isFigure_8 : decode cX2_isFigure 8 = .ok (.iload_n 0, 1) := by decide +kernel
theorem dX2_isFigure_9 : decode cX2_isFigure 9 = .ok (.bipush 48, 2) := by decide +kernel
theorem dX2_isFigure_11 : decode cX2_isFigure 11 = .ok (.iload_n 2, 1) := by decide +kernel
theorem dX2_isFigure_12 : decode cX2_isFigure 12 = .ok (.iadd, 1) := by decide +kernel
theorem dX2_isFigure_13 : decode cX2_isFigure 13 = .ok (.if_icmp .gt 7, 3) := by decide +kernel
theorem dX2_isFigure_16 : decode cX2_isFigure 16 = .ok (.iconst 1, 1) := by decide +kernel
theorem dX2_isFigure_17 : decode cX2_isFigure 17 = .ok (.goto 4, 3) := by decide +kernel
theorem dX2_isFigure_20 : decode cX2_isFigure 20 = .ok (.iconst 0, 1) := by decide +kernel
theorem dX2_isFigure_21 : decode cX2_isFigure 21 = .ok (.ireturn, 1) := by decide +kernel
theorem dX2_tellInto_0 : decode cX2_tellInto 0 = .ok (.aload_n 1, 1) := by decide +kernel
theorem dX2_tellInto_1 : decode cX2_tellInto 1 = .ok (.aload_n 0, 1) := by decide +kernel
theorem dX2_tellInto_2 : decode cX2_tellInto 2 = .ok (.iconst 1, 1) := by decide +kernel
theorem dX2_tellInto_3 : decode cX2_tellInto 3 = .ok (.invokevirtual 37, 3) := by decide +kernel
theorem dX2_tellInto_6 : decode cX2_tellInto 6 = .ok (.aload_n 0, 1) := by decide +kernel
theorem dX2_tellInto_7 : decode cX2_tellInto 7 = .ok (.iconst 2, 1) := by decide +kernel
theorem dX2_tellInto_8 : decode cX2_tellInto 8 = .ok (.invokevirtual 37, 3) := by decide +kernel
theorem dX2_tellInto_11 : decode cX2_tellInto 11 = .ok (.invokevirtual 41, 3) := by decide +kernel
theorem dX2_tellInto_14 : decode cX2_tellInto 14 = .ok (.iconst 3, 1) := by decide +kernel
theorem dX2_tellInto_15 : decode cX2_tellInto 15 = .ok (.istore_n 2, 1) := by decide +kernel
theorem dX2_tellInto_16 : decode cX2_tellInto 16 = .ok (.iload_n 2, 1) := by decide +kernel
theorem dX2_tellInto_17 : decode cX2_tellInto 17 = .ok (.iconst 4, 1) := by decide +kernel
theorem dX2_tellInto_18 : decode cX2_tellInto 18 = .ok (.iadd, 1) := by decide +kernel
theorem dX2_tellInto_19 : decode cX2_tellInto 19 = .ok (.aload_n 0, 1) := by decide +kernel
theorem dX2_tellInto_20 : decode cX2_tellInto 20 = .ok (.getfield 15, 3) := by decide +kernel
theorem dX2_tellInto_23 : decode cX2_tellInto 23 = .ok (.if_icmp .gt 73, 3) := by decide +kernel
theorem dX2_tellInto_26 : decode cX2_tellInto 26 = .ok (.aload_n 0, 1) := by decide +kernel
theorem dX2_tellInto_27 : decode cX2_tellInto 27 = .ok (.getfield 9, 3) := by decide +kernel
theorem dX2_tellInto_30 : decode cX2_tellInto 30 = .ok (.iload_n 2, 1) := by decide +kernel
theorem dX2_tellInto_31 : decode cX2_tellInto 31 = .ok (.iaload, 1) := by decide +kernel
theorem dX2_tellInto_32 : decode cX2_tellInto 32 = .ok (.bipush 69, 2) := by decide +kernel
theorem dX2_tellInto_34 : decode cX2_tellInto 34 = .ok (.if_icmp .ne 31, 3) := by decide +kernel
theorem dX2_tellInto_37 : decode cX2_tellInto 37 = .ok (.aload_n 1, 1) := by decide +kernel
theorem dX2_tellInto_38 : decode cX2_tellInto 38 = .ok (.aload_n 0, 1) := by decide +kernel
theorem dX2_tellInto_39 : decode cX2_tellInto 39 = .ok (.iload_n 2, 1) := by decide +kernel
theorem dX2_tellInto_40 : decode cX2_tellInto 40 = .ok (.iconst 1, 1) := by decide +kernel
theorem dX2_tellInto_41 : decode cX2_tellInto 41 = .ok (.iadd, 1) := by decide +kernel
theorem dX2_tellInto_42 : decode cX2_tellInto 42 = .ok (.invokevirtual 37, 3) := by decide +kernel
theorem dX2_tellInto_45 : decode cX2_tellInto 45 = .ok (.aload_n 0, 1) := by decide +kernel
theorem dX2_tellInto_46 : decode cX2_tellInto 46 = .ok (.iload_n 2, 1) := by decide +kernel
theorem dX2_tellInto_47 : decode cX2_tellInto 47 = .ok (.iconst 2, 1) := by decide +kernel
theorem dX2_tellInto_48 : decode cX2_tellInto 48 = .ok (.iadd, 1) := by decide +kernel
theorem dX2_tellInto_49 : decode cX2_tellInto 49 = .ok (.invokevirtual 37, 3) := by decide +kernel
theorem dX2_tellInto_52 : decode cX2_tellInto 52 = .ok (.aload_n 0, 1) := by decide +kernel
theorem dX2_tellInto_53 : decode cX2_tellInto 53 = .ok (.iload_n 2, 1) := by decide +kernel
theorem dX2_tellInto_54 : decode cX2_tellInto 54 = .ok (.iconst 3, 1) := by decide +kernel
theorem dX2_tellInto_55 : decode cX2_tellInto 55 = .ok (.iadd, 1) := by decide +kernel
theorem dX2_tellInto_56 : decode cX2_tellInto 56 = .ok (.invokevirtual 37, 3) := by decide +kernel
theorem dX2_tellInto_59 : decode cX2_tellInto 59 = .ok (.invokevirtual 47, 3) := by decide +kernel
theorem dX2_tellInto_62 : decode cX2_tellInto 62 = .ok (.goto 28, 3) := by decide +kernel
theorem dX2_tellInto_65 : decode cX2_tellInto 65 = .ok (.aload_n 1, 1) := by decide +kernel
theorem dX2_tellInto_66 : decode cX2_tellInto 66 = .ok (.aload_n 0, 1) := by decide +kernel
theorem dX2_tellInto_67 : decode cX2_tellInto 67 = .ok (.iload_n 2, 1) := by decide +kernel
theorem dX2_tellInto_68 : decode cX2_tellInto 68 = .ok (.iconst 1, 1) := by decide +kernel
theorem dX2_tellInto_69 : decode cX2_tellInto 69 = .ok (.iadd, 1) := by decide +kernel
theorem dX2_tellInto_70 : decode cX2_tellInto 70 = .ok (.invokevirtual 37, 3) := by decide +kernel
theorem dX2_tellInto_73 : decode cX2_tellInto 73 = .ok (.aload_n 0, 1) := by decide +kernel
theorem dX2_tellInto_74 : decode cX2_tellInto 74 = .ok (.iload_n 2, 1) := by decide +kernel
theorem dX2_tellInto_75 : decode cX2_tellInto 75 = .ok (.iconst 2, 1) := by decide +kernel
theorem dX2_tellInto_76 : decode cX2_tellInto 76 = .ok (.iadd, 1) := by decide +kernel
theorem dX2_tellInto_77 : decode cX2_tellInto 77 = .ok (.invokevirtual 37, 3) := by decide +kernel
theorem dX2_tellInto_80 : decode cX2_tellInto 80 = .ok (.aload_n 0, 1) := by decide +kernel
theorem dX2_tellInto_81 : decode cX2_tellInto 81 = .ok (.iload_n 2, 1) := by decide +kernel
theorem dX2_tellInto_82 : decode cX2_tellInto 82 = .ok (.iconst 3, 1) := by decide +kernel
theorem dX2_tellInto_83 : decode cX2_tellInto 83 = .ok (.iadd, 1) := by decide +kernel
theorem dX2_tellInto_84 : decode cX2_tellInto 84 = .ok (.invokevirtual 37, 3) := by decide +kernel
theorem dX2_tellInto_87 : decode cX2_tellInto 87 = .ok (.invokevirtual 51, 3) := by decide +kernel
theorem dX2_tellInto_90 : decode cX2_tellInto 90 = .ok (.iinc 2 4, 3) := by decide +kernel
theorem dX2_tellInto_93 : decode cX2_tellInto 93 = .ok (.goto (-77), 3) := by decide +kernel
theorem dX2_tellInto_96 : decode cX2_tellInto 96 = .ok (.return_, 1) := by decide +kernel
theorem dX2_figure_0 : decode cX2_figure 0 = .ok (.aload_n 0, 1) := by decide +kernel
theorem dX2_figure_1 : decode cX2_figure 1 = .ok (.getfield 9, 3) := by decide +kernel
theorem dX2_figure_4 : decode cX2_figure 4 = .ok (.iload_n 1, 1) := by decide +kernel
theorem dX2_figure_5 : decode cX2_figure 5 = .ok (.iaload, 1) := by decide +kernel
theorem dX2_figure_6 : decode cX2_figure 6 = .ok (.bipush 48, 2) := by decide +kernel
theorem dX2_figure_8 : decode cX2_figure 8 = .ok (.isub, 1) := by decide +kernel
theorem dX2_figure_9 : decode cX2_figure 9 = .ok (.ireturn, 1) := by decide +kernel
theorem dX3_init_0 : decode cX3_init 0 = .ok (.aload_n 0, 1) := by decide +kernel
theorem dX3_init_1 : decode cX3_init 1 = .ok (.invokespecial 3, 3) := by decide +kernel
theorem dX3_init_4 : decode cX3_init 4 = .ok (.aload_n 0, 1) := by decide +kernel
theorem dX3_init_5 : decode cX3_init 5 = .ok (.bipush 6, 2) := by decide +kernel
theorem dX3_init_7 : decode cX3_init 7 = .ok (.anewarray 11, 3) := by decide +kernel
theorem dX3_init_10 : decode cX3_init 10 = .ok (.putfield 13, 3) := by decide +kernel
theorem dX3_init_13 : decode cX3_init 13 = .ok (.aload_n 0, 1) := by decide +kernel
theorem dX3_init_14 : decode cX3_init 14 = .ok (.aload_n 1, 1) := by decide +kernel
theorem dX3_init_15 : decode cX3_init 15 = .ok (.putfield 17, 3) := by decide +kernel
theorem dX3_init_18 : decode cX3_init 18 = .ok (.iconst 0, 1) := by decide +kernel
theorem dX3_init_19 : decode cX3_init 19 = .ok (.istore_n 2, 1) := by decide +kernel
theorem dX3_init_20 : decode cX3_init 20 = .ok (.iload_n 2, 1) := by decide +kernel
theorem dX3_init_21 : decode cX3_init 21 = .ok (.iconst 5, 1) := by decide +kernel
theorem dX3_init_22 : decode cX3_init 22 = .ok (.if_icmp .gt 23, 3) := by decide +kernel
theorem dX3_init_25 : decode cX3_init 25 = .ok (.aload_n 0, 1) := by decide +kernel
theorem dX3_init_26 : decode cX3_init 26 = .ok (.getfield 13, 3) := by decide +kernel
theorem dX3_init_29 : decode cX3_init 29 = .ok (.iload_n 2, 1) := by decide +kernel
theorem dX3_init_30 : decode cX3_init 30 = .ok (.new 11, 3) := by decide +kernel
theorem dX3_init_33 : decode cX3_init 33 = .ok (.dup, 1) := by decide +kernel
theorem dX3_init_34 : decode cX3_init 34 = .ok (.aload_n 1, 1) := by decide +kernel
theorem dX3_init_35 : decode cX3_init 35 = .ok (.invokespecial 21, 3) := by decide +kernel
theorem dX3_init_38 : decode cX3_init 38 = .ok (.aastore, 1) := by decide +kernel
theorem dX3_init_39 : decode cX3_init 39 = .ok (.iinc 2 1, 3) := by decide +kernel
theorem dX3_init_42 : decode cX3_init 42 = .ok (.goto (-22), 3) := by decide +kernel
theorem dX3_init_45 : decode cX3_init 45 = .ok (.return_, 1) := by decide +kernel
theorem dX3_mostBy_0 : decode cX3_mostBy 0 = .ok (.aload_n 0, 1) := by decide +kernel
theorem dX3_mostBy_1 : decode cX3_mostBy 1 = .ok (.iload_n 2, 1) := by decide +kernel
theorem dX3_mostBy_2 : decode cX3_mostBy 2 = .ok (.iconst 5, 1) := by decide +kernel
theorem dX3_mostBy_3 : decode cX3_mostBy 3 = .ok (.invokestatic 24, 3) := by decide +kernel
theorem dX3_mostBy_6 : decode cX3_mostBy 6 = .ok (.putfield 30, 3) := by decide +kernel
theorem dX3_mostBy_9 : decode cX3_mostBy 9 = .ok (.aload_n 0, 1) := by decide +kernel
theorem dX3_mostBy_10 : decode cX3_mostBy 10 = .ok (.iload_n 3, 1) := by decide +kernel
theorem dX3_mostBy_11 : decode cX3_mostBy 11 = .ok (.putfield 34, 3) := by decide +kernel
theorem dX3_mostBy_14 : decode cX3_mostBy 14 = .ok (.aload_n 0, 1) := by decide +kernel
theorem dX3_mostBy_15 : decode cX3_mostBy 15 = .ok (.iconst (-1), 1) := by decide +kernel
theorem dX3_mostBy_16 : decode cX3_mostBy 16 = .ok (.putfield 37, 3) := by decide +kernel
theorem dX3_mostBy_19 : decode cX3_mostBy 19 = .ok (.aload_n 0, 1) := by decide +kernel
theorem dX3_mostBy_20 : decode cX3_mostBy 20 = .ok (.iconst 1, 1) := by decide +kernel
theorem dX3_mostBy_21 : decode cX3_mostBy 21 = .ok (.putfield 40, 3) := by decide +kernel
theorem dX3_mostBy_24 : decode cX3_mostBy 24 = .ok (.aload_n 0, 1) := by decide +kernel
theorem dX3_mostBy_25 : decode cX3_mostBy 25 = .ok (.getfield 13, 3) := by decide +kernel
theorem dX3_mostBy_28 : decode cX3_mostBy 28 = .ok (.iconst 0, 1) := by decide +kernel
theorem dX3_mostBy_29 : decode cX3_mostBy 29 = .ok (.aaload, 1) := by decide +kernel
theorem dX3_mostBy_30 : decode cX3_mostBy 30 = .ok (.aload_n 1, 1) := by decide +kernel
theorem dX3_mostBy_31 : decode cX3_mostBy 31 = .ok (.invokevirtual 43, 3) := by decide +kernel
theorem dX3_mostBy_34 : decode cX3_mostBy 34 = .ok (.aload_n 0, 1) := by decide +kernel
theorem dX3_mostBy_35 : decode cX3_mostBy 35 = .ok (.iconst 0, 1) := by decide +kernel
theorem dX3_mostBy_36 : decode cX3_mostBy 36 = .ok (.iconst 1, 1) := by decide +kernel
theorem dX3_mostBy_37 : decode cX3_mostBy 37 = .ok (.iconst 0, 1) := by decide +kernel
theorem dX3_mostBy_38 : decode cX3_mostBy 38 = .ok (.invokevirtual 47, 3) := by decide +kernel
theorem dX3_mostBy_41 : decode cX3_mostBy 41 = .ok (.aload_n 0, 1) := by decide +kernel
theorem dX3_mostBy_42 : decode cX3_mostBy 42 = .ok (.getfield 37, 3) := by decide +kernel
theorem dX3_mostBy_45 : decode cX3_mostBy 45 = .ok (.ireturn, 1) := by decide +kernel
theorem dX3_goOn_0 : decode cX3_goOn 0 = .ok (.iload_n 1, 1) := by decide +kernel
theorem dX3_goOn_1 : decode cX3_goOn 1 = .ok (.aload_n 0, 1) := by decide +kernel
theorem dX3_goOn_2 : decode cX3_goOn 2 = .ok (.getfield 30, 3) := by decide +kernel
theorem dX3_goOn_5 : decode cX3_goOn 5 = .ok (.if_icmp .ge 8, 3) := by decide +kernel
theorem dX3_goOn_8 : decode cX3_goOn 8 = .ok (.iload_n 1, 1) := by decide +kernel
theorem dX3_goOn_9 : decode cX3_goOn 9 = .ok (.iconst 5, 1) := by decide +kernel
theorem dX3_goOn_10 : decode cX3_goOn 10 = .ok (.if_icmp .lt 22, 3) := by decide +kernel
theorem dX3_goOn_13 : decode cX3_goOn 13 = .ok (.iload_n 3, 1) := by decide +kernel
theorem dX3_goOn_14 : decode cX3_goOn 14 = .ok (.aload_n 0, 1) := by decide +kernel
theorem dX3_goOn_15 : decode cX3_goOn 15 = .ok (.getfield 37, 3) := by decide +kernel
theorem dX3_goOn_18 : decode cX3_goOn 18 = .ok (.if_icmp .le 13, 3) := by decide +kernel
theorem dX3_goOn_21 : decode cX3_goOn 21 = .ok (.aload_n 0, 1) := by decide +kernel
theorem dX3_goOn_22 : decode cX3_goOn 22 = .ok (.iload_n 3, 1) := by decide +kernel
theorem dX3_goOn_23 : decode cX3_goOn 23 = .ok (.putfield 37, 3) := by decide +kernel
theorem dX3_goOn_26 : decode cX3_goOn 26 = .ok (.aload_n 0, 1) := by decide +kernel
theorem dX3_goOn_27 : decode cX3_goOn 27 = .ok (.iload_n 2, 1) := by decide +kernel
theorem dX3_goOn_28 : decode cX3_goOn 28 = .ok (.putfield 40, 3) := by decide +kernel
theorem dX3_goOn_31 : decode cX3_goOn 31 = .ok (.return_, 1) := by decide +kernel
theorem dX3_goOn_32 : decode cX3_goOn 32 = .ok (.aload_n 0, 1) := by decide +kernel
theorem dX3_goOn_33 : decode cX3_goOn 33 = .ok (.getfield 13, 3) := by decide +kernel
theorem dX3_goOn_36 : decode cX3_goOn 36 = .ok (.iload_n 1, 1) := by decide +kernel
theorem dX3_goOn_37 : decode cX3_goOn 37 = .ok (.aaload, 1) := by decide +kernel
theorem dX3_goOn_38 : decode cX3_goOn 38 = .ok (.astore 4, 2) := by decide +kernel
theorem dX3_goOn_40 : decode cX3_goOn 40 = .ok (.aload_n 0, 1) := by decide +kernel
theorem dX3_goOn_41 : decode cX3_goOn 41 = .ok (.getfield 13, 3) := by decide +kernel
theorem dX3_goOn_44 : decode cX3_goOn 44 = .ok (.iload_n 1, 1) := by decide +kernel
theorem dX3_goOn_45 : decode cX3_goOn 45 = .ok (.iconst 1, 1) := by decide +kernel
theorem dX3_goOn_46 : decode cX3_goOn 46 = .ok (.iadd, 1) := by decide +kernel
theorem dX3_goOn_47 : decode cX3_goOn 47 = .ok (.aaload, 1) := by decide +kernel
theorem dX3_goOn_48 : decode cX3_goOn 48 = .ok (.astore 5, 2) := by decide +kernel
theorem dX3_goOn_50 : decode cX3_goOn 50 = .ok (.aload 5, 2) := by decide +kernel
theorem dX3_goOn_52 : decode cX3_goOn 52 = .ok (.aload 4, 2) := by decide +kernel
theorem dX3_goOn_54 : decode cX3_goOn 54 = .ok (.invokevirtual 43, 3) := by decide +kernel
theorem dX3_goOn_57 : decode cX3_goOn 57 = .ok (.aload 5, 2) := by decide +kernel
theorem dX3_goOn_59 : decode cX3_goOn 59 = .ok (.invokevirtual 51, 3) := by decide +kernel
theorem dX3_goOn_62 : decode cX3_goOn 62 = .ok (.aload_n 0, 1) := by decide +kernel
theorem dX3_goOn_63 : decode cX3_goOn 63 = .ok (.iload_n 1, 1) := by decide +kernel
theorem dX3_goOn_64 : decode cX3_goOn 64 = .ok (.iconst 1, 1) := by decide +kernel
theorem dX3_goOn_65 : decode cX3_goOn 65 = .ok (.iadd, 1) := by decide +kernel
theorem dX3_goOn_66 : decode cX3_goOn 66 = .ok (.bipush 10, 2) := by decide +kernel
theorem dX3_goOn_68 : decode cX3_goOn 68 = .ok (.iload_n 2, 1) := by decide +kernel
theorem dX3_goOn_69 : decode cX3_goOn 69 = .ok (.imul, 1) := by decide +kernel
theorem dX3_goOn_70 : decode cX3_goOn 70 = .ok (.iload_n 3, 1) := by decide +kernel
theorem dX3_goOn_71 : decode cX3_goOn 71 = .ok (.invokevirtual 47, 3) := by decide +kernel
theorem dX3_goOn_74 : decode cX3_goOn 74 = .ok (.iconst 0, 1) := by decide +kernel
theorem dX3_goOn_75 : decode cX3_goOn 75 = .ok (.istore 6, 2) := by decide +kernel
theorem dX3_goOn_77 : decode cX3_goOn 77 = .ok (.iload 6, 2) := by decide +kernel
theorem dX3_goOn_79 : decode cX3_goOn 79 = .ok (.aload_n 0, 1) := by decide +kernel
theorem dX3_goOn_80 : decode cX3_goOn 80 = .ok (.getfield 17, 3) := by decide +kernel
theorem dX3_goOn_83 : decode cX3_goOn 83 = .ok (.getfield 54, 3) := by decide +kernel
theorem dX3_goOn_86 : decode cX3_goOn 86 = .ok (.if_icmp .ge 72, 3) := by decide +kernel
theorem dX3_goOn_89 : decode cX3_goOn 89 = .ok (.aload_n 0, 1) := by decide +kernel
theorem dX3_goOn_90 : decode cX3_goOn 90 = .ok (.getfield 34, 3) := by decide +kernel
theorem dX3_goOn_93 : decode cX3_goOn 93 = .ok (.iload 6, 2) := by decide +kernel
theorem dX3_goOn_95 : decode cX3_goOn 95 = .ok (.ishr, 1) := by decide +kernel
theorem dX3_goOn_96 : decode cX3_goOn 96 = .ok (.iconst 1, 1) := by decide +kernel
theorem dX3_goOn_97 : decode cX3_goOn 97 = .ok (.iand, 1) := by decide +kernel
theorem dX3_goOn_98 : decode cX3_goOn 98 = .ok (.ifCond .eq 54, 3) := by decide +kernel
theorem dX3_goOn_101 : decode cX3_goOn 101 = .ok (.aload 4, 2) := by decide +kernel
theorem dX3_goOn_103 : decode cX3_goOn 103 = .ok (.iload 6, 2) := by decide +kernel
theorem dX3_goOn_105 : decode cX3_goOn 105 = .ok (.invokevirtual 59, 3) := by decide +kernel
theorem dX3_goOn_108 : decode cX3_goOn 108 = .ok (.ifCond .eq 44, 3) := by decide +kernel
theorem dX3_goOn_111 : decode cX3_goOn 111 = .ok (.aload 5, 2) := by decide +kernel
theorem dX3_goOn_113 : decode cX3_goOn 113 = .ok (.aload 4, 2) := by decide +kernel
theorem dX3_goOn_115 : decode cX3_goOn 115 = .ok (.invokevirtual 43, 3) := by decide +kernel
theorem dX3_goOn_118 : decode cX3_goOn 118 = .ok (.aload 5, 2) := by decide +kernel
theorem dX3_goOn_120 : decode cX3_goOn 120 = .ok (.iload 6, 2) := by decide +kernel
theorem dX3_goOn_122 : decode cX3_goOn 122 = .ok (.invokevirtual 63, 3) := by decide +kernel
theorem dX3_goOn_125 : decode cX3_goOn 125 = .ok (.aload_n 0, 1) := by decide +kernel
theorem dX3_goOn_126 : decode cX3_goOn 126 = .ok (.iload_n 1, 1) := by decide +kernel
theorem dX3_goOn_127 : decode cX3_goOn 127 = .ok (.iconst 1, 1) := by decide +kernel
theorem dX3_goOn_128 : decode cX3_goOn 128 = .ok (.iadd, 1) := by decide +kernel
theorem dX3_goOn_129 : decode cX3_goOn 129 = .ok (.bipush 10, 2) := by decide +kernel
theorem dX3_goOn_131 : decode cX3_goOn 131 = .ok (.iload_n 2, 1) := by decide +kernel
theorem dX3_goOn_132 : decode cX3_goOn 132 = .ok (.imul, 1) := by decide +kernel
theorem dX3_goOn_133 : decode cX3_goOn 133 = .ok (.iload 6, 2) := by decide +kernel
theorem dX3_goOn_135 : decode cX3_goOn 135 = .ok (.iadd, 1) := by decide +kernel
theorem dX3_goOn_136 : decode cX3_goOn 136 = .ok (.iconst 1, 1) := by decide +kernel
theorem dX3_goOn_137 : decode cX3_goOn 137 = .ok (.iadd, 1) := by decide +kernel
theorem dX3_goOn_138 : decode cX3_goOn 138 = .ok (.iload_n 3, 1) := by decide +kernel
theorem dX3_goOn_139 : decode cX3_goOn 139 = .ok (.aload_n 0, 1) := by decide +kernel
theorem dX3_goOn_140 : decode cX3_goOn 140 = .ok (.getfield 17, 3) := by decide +kernel
theorem dX3_goOn_143 : decode cX3_goOn 143 = .ok (.iload 6, 2) := by decide +kernel
theorem dX3_goOn_145 : decode cX3_goOn 145 = .ok (.invokevirtual 67, 3) := by decide +kernel
theorem dX3_goOn_148 : decode cX3_goOn 148 = .ok (.iadd, 1) := by decide +kernel
theorem dX3_goOn_149 : decode cX3_goOn 149 = .ok (.invokevirtual 47, 3) := by decide +kernel
theorem dX3_goOn_152 : decode cX3_goOn 152 = .ok (.iinc 6 1, 3) := by decide +kernel
theorem dX3_goOn_155 : decode cX3_goOn 155 = .ok (.goto (-78), 3) := by decide +kernel
theorem dX3_goOn_158 : decode cX3_goOn 158 = .ok (.return_, 1) := by decide +kernel
theorem dX4_init_0 : decode cX4_init 0 = .ok (.aload_n 0, 1) := by decide +kernel
theorem dX4_init_1 : decode cX4_init 1 = .ok (.invokespecial 3, 3) := by decide +kernel
theorem dX4_init_4 : decode cX4_init 4 = .ok (.aload_n 0, 1) := by decide +kernel
theorem dX4_init_5 : decode cX4_init 5 = .ok (.bipush 6, 2) := by decide +kernel
theorem dX4_init_7 : decode cX4_init 7 = .ok (.newarray .int, 2) := by decide +kernel
theorem dX4_init_9 : decode cX4_init 9 = .ok (.putfield 9, 3) := by decide +kernel
theorem dX4_init_12 : decode cX4_init 12 = .ok (.aload_n 0, 1) := by decide +kernel
theorem dX4_init_13 : decode cX4_init 13 = .ok (.bipush 6, 2) := by decide +kernel
theorem dX4_init_15 : decode cX4_init 15 = .ok (.newarray .int, 2) := by decide +kernel
theorem dX4_init_17 : decode cX4_init 17 = .ok (.putfield 15, 3) := by decide +kernel
theorem dX4_init_20 : decode cX4_init 20 = .ok (.aload_n 0, 1) := by decide +kernel
theorem dX4_init_21 : decode cX4_init 21 = .ok (.bipush 6, 2) := by decide +kernel
theorem dX4_init_23 : decode cX4_init 23 = .ok (.newarray .int, 2) := by decide +kernel
theorem dX4_init_25 : decode cX4_init 25 = .ok (.putfield 18, 3) := by decide +kernel
theorem dX4_init_28 : decode cX4_init 28 = .ok (.return_, 1) := by decide +kernel
theorem dX4_add_0 : decode cX4_add 0 = .ok (.aload_n 0, 1) := by decide +kernel
theorem dX4_add_1 : decode cX4_add 1 = .ok (.getfield 21, 3) := by decide +kernel
theorem dX4_add_4 : decode cX4_add 4 = .ok (.bipush 6, 2) := by decide +kernel
theorem dX4_add_6 : decode cX4_add 6 = .ok (.if_icmp .ge 43, 3) := by decide +kernel
theorem dX4_add_9 : decode cX4_add 9 = .ok (.aload_n 0, 1) := by decide +kernel
theorem dX4_add_10 : decode cX4_add 10 = .ok (.getfield 9, 3) := by decide +kernel
theorem dX4_add_13 : decode cX4_add 13 = .ok (.aload_n 0, 1) := by decide +kernel
theorem dX4_add_14 : decode cX4_add 14 = .ok (.getfield 21, 3) := by decide +kernel
theorem dX4_add_17 : decode cX4_add 17 = .ok (.iload_n 1, 1) := by decide +kernel
theorem dX4_add_18 : decode cX4_add 18 = .ok (.iastore, 1) := by decide +kernel
theorem dX4_add_19 : decode cX4_add 19 = .ok (.aload_n 0, 1) := by decide +kernel
theorem dX4_add_20 : decode cX4_add 20 = .ok (.getfield 15, 3) := by decide +kernel
theorem dX4_add_23 : decode cX4_add 23 = .ok (.aload_n 0, 1) := by decide +kernel
theorem dX4_add_24 : decode cX4_add 24 = .ok (.getfield 21, 3) := by decide +kernel
theorem dX4_add_27 : decode cX4_add 27 = .ok (.iload_n 2, 1) := by decide +kernel
theorem dX4_add_28 : decode cX4_add 28 = .ok (.iastore, 1) := by decide +kernel
theorem dX4_add_29 : decode cX4_add 29 = .ok (.aload_n 0, 1) := by decide +kernel
theorem dX4_add_30 : decode cX4_add 30 = .ok (.getfield 18, 3) := by decide +kernel
theorem dX4_add_33 : decode cX4_add 33 = .ok (.aload_n 0, 1) := by decide +kernel
theorem dX4_add_34 : decode cX4_add 34 = .ok (.getfield 21, 3) := by decide +kernel
theorem dX4_add_37 : decode cX4_add 37 = .ok (.iload_n 3, 1) := by decide +kernel
theorem dX4_add_38 : decode cX4_add 38 = .ok (.iastore, 1) := by decide +kernel
theorem dX4_add_39 : decode cX4_add 39 = .ok (.aload_n 0, 1) := by decide +kernel
theorem dX4_add_40 : decode cX4_add 40 = .ok (.dup, 1) := by decide +kernel
theorem dX4_add_41 : decode cX4_add 41 = .ok (.getfield 21, 3) := by decide +kernel
theorem dX4_add_44 : decode cX4_add 44 = .ok (.iconst 1, 1) := by decide +kernel
theorem dX4_add_45 : decode cX4_add 45 = .ok (.iadd, 1) := by decide +kernel
theorem dX4_add_46 : decode cX4_add 46 = .ok (.putfield 21, 3) := by decide +kernel
theorem dX4_add_49 : decode cX4_add 49 = .ok (.return_, 1) := by decide +kernel
theorem dX4_palatesThatFit_0 : decode cX4_palatesThatFit 0 = .ok (.iconst 0, 1) := by decide +kernel
theorem dX4_palatesThatFit_1 : decode cX4_palatesThatFit 1 = .ok (.istore_n 2, 1) := by decide +kernel
theorem dX4_palatesThatFit_2 : decode cX4_palatesThatFit 2 = .ok (.iconst 0, 1) := by decide +kernel
theorem dX4_palatesThatFit_3 : decode cX4_palatesThatFit 3 = .ok (.istore_n 3, 1) := by decide +kernel
theorem dX4_palatesThatFit_4 : decode cX4_palatesThatFit 4 = .ok (.iload_n 3, 1) := by decide +kernel
theorem dX4_palatesThatFit_5 : decode cX4_palatesThatFit 5 = .ok (.bipush 9, 2) := by decide +kernel
theorem dX4_palatesThatFit_7 : decode cX4_palatesThatFit 7 = .ok (.if_icmp .gt 24, 3) := by decide +kernel
theorem dX4_palatesThatFit_10 : decode cX4_palatesThatFit 10 = .ok (.aload_n 0, 1) := by decide +kernel
theorem dX4_palatesThatFit_11 : decode cX4_palatesThatFit 11 = .ok (.iload_n 1, 1) := by decide +kernel
theorem dX4_palatesThatFit_12 : decode cX4_palatesThatFit 12 = .ok (.iload_n 3, 1) := by decide +kernel
theorem dX4_palatesThatFit_13 : decode cX4_palatesThatFit 13 = .ok (.invokevirtual 25, 3) := by decide +kernel
theorem dX4_palatesThatFit_16 : decode cX4_palatesThatFit 16 = .ok (.ifCond .eq 9, 3) := by decide +kernel
theorem dX4_palatesThatFit_19 : decode cX4_palatesThatFit 19 = .ok (.iload_n 2, 1) := by decide +kernel
theorem dX4_palatesThatFit_20 : decode cX4_palatesThatFit 20 = .ok (.iconst 1, 1) := by decide +kernel
theorem dX4_palatesThatFit_21 : decode cX4_palatesThatFit 21 = .ok (.iload_n 3, 1) := by decide +kernel
theorem dX4_palatesThatFit_22 : decode cX4_palatesThatFit 22 = .ok (.ishl, 1) := by decide +kernel
theorem dX4_palatesThatFit_23 : decode cX4_palatesThatFit 23 = .ok (.ior, 1) := by decide +kernel
theorem dX4_palatesThatFit_24 : decode cX4_palatesThatFit 24 = .ok (.istore_n 2, 1) := by decide +kernel
theorem dX4_palatesThatFit_25 : decode cX4_palatesThatFit 25 = .ok (.iinc 3 1, 3) := by decide +kernel
theorem dX4_palatesThatFit_28 : decode cX4_palatesThatFit 28 = .ok (.goto (-24), 3) := by decide +kernel
theorem dX4_palatesThatFit_31 : decode cX4_palatesThatFit 31 = .ok (.iload_n 2, 1) := by decide +kernel
theorem dX4_palatesThatFit_32 : decode cX4_palatesThatFit 32 = .ok (.ireturn, 1) := by decide +kernel
theorem dX4_fitsAll_0 : decode cX4_fitsAll 0 = .ok (.iconst 0, 1) := by decide +kernel
theorem dX4_fitsAll_1 : decode cX4_fitsAll 1 = .ok (.istore_n 3, 1) := by decide +kernel
theorem dX4_fitsAll_2 : decode cX4_fitsAll 2 = .ok (.iload_n 3, 1) := by decide +kernel
theorem dX4_fitsAll_3 : decode cX4_fitsAll 3 = .ok (.aload_n 0, 1) := by decide +kernel
theorem dX4_fitsAll_4 : decode cX4_fitsAll 4 = .ok (.getfield 21, 3) := by decide +kernel
theorem dX4_fitsAll_7 : decode cX4_fitsAll 7 = .ok (.if_icmp .ge 41, 3) := by decide +kernel
theorem dX4_fitsAll_10 : decode cX4_fitsAll 10 = .ok (.aload_n 0, 1) := by decide +kernel
theorem dX4_fitsAll_11 : decode cX4_fitsAll 11 = .ok (.getfield 9, 3) := by decide +kernel
theorem dX4_fitsAll_14 : decode cX4_fitsAll 14 = .ok (.iload_n 3, 1) := by decide +kernel
theorem dX4_fitsAll_15 : decode cX4_fitsAll 15 = .ok (.iaload, 1) := by decide +kernel
theorem dX4_fitsAll_16 : decode cX4_fitsAll 16 = .ok (.iload_n 1, 1) := by decide +kernel
theorem dX4_fitsAll_17 : decode cX4_fitsAll 17 = .ok (.if_icmp .ne 25, 3) := by decide +kernel
theorem dX4_fitsAll_20 : decode cX4_fitsAll 20 = .ok (.iload_n 1, 1) := by decide +kernel
theorem dX4_fitsAll_21 : decode cX4_fitsAll 21 = .ok (.iload_n 2, 1) := by decide +kernel
theorem dX4_fitsAll_22 : decode cX4_fitsAll 22 = .ok (.aload_n 0, 1) := by decide +kernel
theorem dX4_fitsAll_23 : decode cX4_fitsAll 23 = .ok (.getfield 15, 3) := by decide +kernel
theorem dX4_fitsAll_26 : decode cX4_fitsAll 26 = .ok (.iload_n 3, 1) := by decide +kernel
theorem dX4_fitsAll_27 : decode cX4_fitsAll 27 = .ok (.iaload, 1) := by decide +kernel
theorem dX4_fitsAll_28 : decode cX4_fitsAll 28 = .ok (.invokestatic 29, 3) := by decide +kernel
theorem dX4_fitsAll_31 : decode cX4_fitsAll 31 = .ok (.aload_n 0, 1) := by decide +kernel
theorem dX4_fitsAll_32 : decode cX4_fitsAll 32 = .ok (.getfield 18, 3) := by decide +kernel
theorem dX4_fitsAll_35 : decode cX4_fitsAll 35 = .ok (.iload_n 3, 1) := by decide +kernel
theorem dX4_fitsAll_36 : decode cX4_fitsAll 36 = .ok (.iaload, 1) := by decide +kernel
theorem dX4_fitsAll_37 : decode cX4_fitsAll 37 = .ok (.if_icmp .eq 5, 3) := by decide +kernel
theorem dX4_fitsAll_40 : decode cX4_fitsAll 40 = .ok (.iconst 0, 1) := by decide +kernel
theorem dX4_fitsAll_41 : decode cX4_fitsAll 41 = .ok (.ireturn, 1) := by decide +kernel
theorem dX4_fitsAll_42 : decode cX4_fitsAll 42 = .ok (.iinc 3 1, 3) := by decide +kernel
theorem dX4_fitsAll_45 : decode cX4_fitsAll 45 = .ok (.goto (-43), 3) := by decide +kernel
theorem dX4_fitsAll_48 : decode cX4_fitsAll 48 = .ok (.iconst 1, 1) := by decide +kernel
theorem dX4_fitsAll_49 : decode cX4_fitsAll 49 = .ok (.ireturn, 1) := by decide +kernel
theorem dX5_init_0 : decode cX5_init 0 = .ok (.aload_n 0, 1) := by decide +kernel
theorem dX5_init_1 : decode cX5_init 1 = .ok (.invokespecial 3, 3) := by decide +kernel
theorem dX5_init_4 : decode cX5_init 4 = .ok (.aload_n 0, 1) := by decide +kernel
theorem dX5_init_5 : decode cX5_init 5 = .ok (.iconst 2, 1) := by decide +kernel
theorem dX5_init_6 : decode cX5_init 6 = .ok (.anewarray 9, 3) := by decide +kernel
theorem dX5_init_9 : decode cX5_init 9 = .ok (.putfield 11, 3) := by decide +kernel
theorem dX5_init_12 : decode cX5_init 12 = .ok (.aload_n 0, 1) := by decide +kernel
theorem dX5_init_13 : decode cX5_init 13 = .ok (.iconst 2, 1) := by decide +kernel
theorem dX5_init_14 : decode cX5_init 14 = .ok (.newarray .boolean, 2) := by decide +kernel
theorem dX5_init_16 : decode cX5_init 16 = .ok (.putfield 17, 3) := by decide +kernel
theorem dX5_init_19 : decode cX5_init 19 = .ok (.iconst 0, 1) := by decide +kernel
theorem dX5_init_20 : decode cX5_init 20 = .ok (.istore_n 2, 1) := by decide +kernel
theorem dX5_init_21 : decode cX5_init 21 = .ok (.iload_n 2, 1) := by decide +kernel
theorem dX5_init_22 : decode cX5_init 22 = .ok (.iconst 2, 1) := by decide +kernel
theorem dX5_init_23 : decode cX5_init 23 = .ok (.if_icmp .ge 23, 3) := by decide +kernel
theorem dX5_init_26 : decode cX5_init 26 = .ok (.aload_n 0, 1) := by decide +kernel
theorem dX5_init_27 : decode cX5_init 27 = .ok (.getfield 11, 3) := by decide +kernel
theorem dX5_init_30 : decode cX5_init 30 = .ok (.iload_n 2, 1) := by decide +kernel
theorem dX5_init_31 : decode cX5_init 31 = .ok (.new 9, 3) := by decide +kernel
theorem dX5_init_34 : decode cX5_init 34 = .ok (.dup, 1) := by decide +kernel
theorem dX5_init_35 : decode cX5_init 35 = .ok (.aload_n 1, 1) := by decide +kernel
theorem dX5_init_36 : decode cX5_init 36 = .ok (.invokespecial 21, 3) := by decide +kernel
theorem dX5_init_39 : decode cX5_init 39 = .ok (.aastore, 1) := by decide +kernel
theorem dX5_init_40 : decode cX5_init 40 = .ok (.iinc 2 1, 3) := by decide +kernel
theorem dX5_init_43 : decode cX5_init 43 = .ok (.goto (-22), 3) := by decide +kernel
theorem dX5_init_46 : decode cX5_init 46 = .ok (.return_, 1) := by decide +kernel
theorem dX5_put_0 : decode cX5_put 0 = .ok (.aload_n 0, 1) := by decide +kernel
theorem dX5_put_1 : decode cX5_put 1 = .ok (.getfield 11, 3) := by decide +kernel
theorem dX5_put_4 : decode cX5_put 4 = .ok (.iload_n 1, 1) := by decide +kernel
theorem dX5_put_5 : decode cX5_put 5 = .ok (.aaload, 1) := by decide +kernel
theorem dX5_put_6 : decode cX5_put 6 = .ok (.aload_n 2, 1) := by decide +kernel
theorem dX5_put_7 : decode cX5_put 7 = .ok (.invokevirtual 24, 3) := by decide +kernel
theorem dX5_put_10 : decode cX5_put 10 = .ok (.aload_n 0, 1) := by decide +kernel
theorem dX5_put_11 : decode cX5_put 11 = .ok (.getfield 17, 3) := by decide +kernel
theorem dX5_put_14 : decode cX5_put 14 = .ok (.iload_n 1, 1) := by decide +kernel
theorem dX5_put_15 : decode cX5_put 15 = .ok (.iconst 1, 1) := by decide +kernel
theorem dX5_put_16 : decode cX5_put 16 = .ok (.bastore, 1) := by decide +kernel
theorem dX5_put_17 : decode cX5_put 17 = .ok (.return_, 1) := by decide +kernel
theorem dX5_forgetAll_0 : decode cX5_forgetAll 0 = .ok (.iconst 0, 1) := by decide +kernel
theorem dX5_forgetAll_1 : decode cX5_forgetAll 1 = .ok (.istore_n 1, 1) := by decide +kernel
theorem dX5_forgetAll_2 : decode cX5_forgetAll 2 = .ok (.iload_n 1, 1) := by decide +kernel
theorem dX5_forgetAll_3 : decode cX5_forgetAll 3 = .ok (.iconst 2, 1) := by decide +kernel
theorem dX5_forgetAll_4 : decode cX5_forgetAll 4 = .ok (.if_icmp .ge 16, 3) := by decide +kernel
theorem dX5_forgetAll_7 : decode cX5_forgetAll 7 = .ok (.aload_n 0, 1) := by decide +kernel
theorem dX5_forgetAll_8 : decode cX5_forgetAll 8 = .ok (.getfield 17, 3) := by decide +kernel
theorem dX5_forgetAll_11 : decode cX5_forgetAll 11 = .ok (.iload_n 1, 1) := by decide +kernel
theorem dX5_forgetAll_12 : decode cX5_forgetAll 12 = .ok (.iconst 0, 1) := by decide +kernel
theorem dX5_forgetAll_13 : decode cX5_forgetAll 13 = .ok (.bastore, 1) := by decide +kernel
theorem dX5_forgetAll_14 : decode cX5_forgetAll 14 = .ok (.iinc 1 1, 3) := by decide +kernel
theorem dX5_forgetAll_17 : decode cX5_forgetAll 17 = .ok (.goto (-15), 3) := by decide +kernel
theorem dX5_forgetAll_20 : decode cX5_forgetAll 20 = .ok (.return_, 1) := by decide +kernel
theorem dX6_init_0 : decode cX6_init 0 = .ok (.aload_n 0, 1) := by decide +kernel
theorem dX6_init_1 : decode cX6_init 1 = .ok (.invokespecial 3, 3) := by decide +kernel
theorem dX6_init_4 : decode cX6_init 4 = .ok (.aload_n 0, 1) := by decide +kernel
theorem dX6_init_5 : decode cX6_init 5 = .ok (.aload_n 1, 1) := by decide +kernel
theorem dX6_init_6 : decode cX6_init 6 = .ok (.putfield 9, 3) := by decide +kernel
theorem dX6_init_9 : decode cX6_init 9 = .ok (.return_, 1) := by decide +kernel
theorem dX6_find_0 : decode cX6_find 0 = .ok (.aload_n 0, 1) := by decide +kernel
theorem dX6_find_1 : decode cX6_find 1 = .ok (.iconst 0, 1) := by decide +kernel
theorem dX6_find_2 : decode cX6_find 2 = .ok (.putfield 15, 3) := by decide +kernel
theorem dX6_find_5 : decode cX6_find 5 = .ok (.aload_n 0, 1) := by decide +kernel
theorem dX6_find_6 : decode cX6_find 6 = .ok (.bipush (-9), 2) := by decide +kernel
theorem dX6_find_8 : decode cX6_find 8 = .ok (.putfield 19, 3) := by decide +kernel
theorem dX6_find_11 : decode cX6_find 11 = .ok (.iconst 0, 1) := by decide +kernel
theorem dX6_find_12 : decode cX6_find 12 = .ok (.istore 4, 2) := by decide +kernel
theorem dX6_find_14 : decode cX6_find 14 = .ok (.iload 4, 2) := by decide +kernel
theorem dX6_find_16 : decode cX6_find 16 = .ok (.iconst 4, 1) := by decide +kernel
theorem dX6_find_17 : decode cX6_find 17 = .ok (.if_icmp .gt 79, 3) := by decide +kernel
theorem dX6_find_20 : decode cX6_find 20 = .ok (.iconst 0, 1) := by decide +kernel
theorem dX6_find_21 : decode cX6_find 21 = .ok (.istore 5, 2) := by decide +kernel
theorem dX6_find_23 : decode cX6_find 23 = .ok (.iload 5, 2) := by decide +kernel
theorem dX6_find_25 : decode cX6_find 25 = .ok (.iconst 4, 1) := by decide +kernel
theorem dX6_find_26 : decode cX6_find 26 = .ok (.if_icmp .gt 64, 3) := by decide +kernel
theorem dX6_find_29 : decode cX6_find 29 = .ok (.aload_n 0, 1) := by decide +kernel
theorem dX6_find_30 : decode cX6_find 30 = .ok (.iload_n 1, 1) := by decide +kernel
theorem dX6_find_31 : decode cX6_find 31 = .ok (.iload 4, 2) := by decide +kernel
theorem dX6_find_33 : decode cX6_find 33 = .ok (.iload 5, 2) := by decide +kernel
theorem dX6_find_35 : decode cX6_find 35 = .ok (.iload_n 3, 1) := by decide +kernel
theorem dX6_find_36 : decode cX6_find 36 = .ok (.invokevirtual 22, 3) := by decide +kernel
theorem dX6_find_39 : decode cX6_find 39 = .ok (.ifCond .eq 45, 3) := by decide +kernel
theorem dX6_find_42 : decode cX6_find 42 = .ok (.aload_n 0, 1) := by decide +kernel
theorem dX6_find_43 : decode cX6_find 43 = .ok (.iload_n 2, 1) := by decide +kernel
theorem dX6_find_44 : decode cX6_find 44 = .ok (.iload 5, 2) := by decide +kernel
theorem dX6_find_46 : decode cX6_find 46 = .ok (.iload 4, 2) := by decide +kernel
theorem dX6_find_48 : decode cX6_find 48 = .ok (.iload_n 3, 1) := by decide +kernel
theorem dX6_find_49 : decode cX6_find 49 = .ok (.invokevirtual 22, 3) := by decide +kernel
theorem dX6_find_52 : decode cX6_find 52 = .ok (.ifCond .eq 32, 3) := by decide +kernel
theorem dX6_find_55 : decode cX6_find 55 = .ok (.aload_n 0, 1) := by decide +kernel
theorem dX6_find_56 : decode cX6_find 56 = .ok (.getfield 15, 3) := by decide +kernel
theorem dX6_find_59 : decode cX6_find 59 = .ok (.ifCond .ne 15, 3) := by decide +kernel
theorem dX6_find_62 : decode cX6_find 62 = .ok (.aload_n 0, 1) := by decide +kernel
theorem dX6_find_63 : decode cX6_find 63 = .ok (.bipush 10, 2) := by decide +kernel
theorem dX6_find_65 : decode cX6_find 65 = .ok (.iload 4, 2) := by decide +kernel
theorem dX6_find_67 : decode cX6_find 67 = .ok (.imul, 1) := by decide +kernel
theorem dX6_find_68 : decode cX6_find 68 = .ok (.iload 5, 2) := by decide +kernel
theorem dX6_find_70 : decode cX6_find 70 = .ok (.iadd, 1) := by decide +kernel
theorem dX6_find_71 : decode cX6_find 71 = .ok (.putfield 19, 3) := by decide +kernel
theorem dX6_find_74 : decode cX6_find 74 = .ok (.aload_n 0, 1) := by decide +kernel
theorem dX6_find_75 : decode cX6_find 75 = .ok (.dup, 1) := by decide +kernel
theorem dX6_find_76 : decode cX6_find 76 = .ok (.getfield 15, 3) := by decide +kernel
theorem dX6_find_79 : decode cX6_find 79 = .ok (.iconst 1, 1) := by decide +kernel
theorem dX6_find_80 : decode cX6_find 80 = .ok (.iadd, 1) := by decide +kernel
theorem dX6_find_81 : decode cX6_find 81 = .ok (.putfield 15, 3) := by decide +kernel
theorem dX6_find_84 : decode cX6_find 84 = .ok (.iinc 5 1, 3) := by decide +kernel
theorem dX6_find_87 : decode cX6_find 87 = .ok (.goto (-64), 3) := by decide +kernel
theorem dX6_find_90 : decode cX6_find 90 = .ok (.iinc 4 1, 3) := by decide +kernel
theorem dX6_find_93 : decode cX6_find 93 = .ok (.goto (-79), 3) := by decide +kernel
theorem dX6_find_96 : decode cX6_find 96 = .ok (.return_, 1) := by decide +kernel
theorem dX6_isLeast_0 : decode cX6_isLeast 0 = .ok (.aload_n 0, 1) := by decide +kernel
theorem dX6_isLeast_1 : decode cX6_isLeast 1 = .ok (.iload_n 1, 1) := by decide +kernel
theorem dX6_isLeast_2 : decode cX6_isLeast 2 = .ok (.iload_n 2, 1) := by decide +kernel
theorem dX6_isLeast_3 : decode cX6_isLeast 3 = .ok (.iload_n 3, 1) := by decide +kernel
theorem dX6_isLeast_4 : decode cX6_isLeast 4 = .ok (.iload 4, 2) := by decide +kernel
theorem dX6_isLeast_6 : decode cX6_isLeast 6 = .ok (.invokevirtual 26, 3) := by decide +kernel
theorem dX6_isLeast_9 : decode cX6_isLeast 9 = .ok (.istore 5, 2) := by decide +kernel
theorem dX6_isLeast_11 : decode cX6_isLeast 11 = .ok (.iconst 0, 1) := by decide +kernel
theorem dX6_isLeast_12 : decode cX6_isLeast 12 = .ok (.istore 6, 2) := by decide +kernel
theorem dX6_isLeast_14 : decode cX6_isLeast 14 = .ok (.iload 6, 2) := by decide +kernel
theorem dX6_isLeast_16 : decode cX6_isLeast 16 = .ok (.iconst 4, 1) := by decide +kernel
theorem dX6_isLeast_17 : decode cX6_isLeast 17 = .ok (.if_icmp .gt 26, 3) := by decide +kernel
theorem dX6_isLeast_20 : decode cX6_isLeast 20 = .ok (.aload_n 0, 1) := by decide +kernel
theorem dX6_isLeast_21 : decode cX6_isLeast 21 = .ok (.iload_n 1, 1) := by decide +kernel
theorem dX6_isLeast_22 : decode cX6_isLeast 22 = .ok (.iload 6, 2) := by decide +kernel
theorem dX6_isLeast_24 : decode cX6_isLeast 24 = .ok (.iload_n 3, 1) := by decide +kernel
theorem dX6_isLeast_25 : decode cX6_isLeast 25 = .ok (.iload 4, 2) := by decide +kernel
theorem dX6_isLeast_27 : decode cX6_isLeast 27 = .ok (.invokevirtual 26, 3) := by decide +kernel
theorem dX6_isLeast_30 : decode cX6_isLeast 30 = .ok (.iload 5, 2) := by decide +kernel
theorem dX6_isLeast_32 : decode cX6_isLeast 32 = .ok (.if_icmp .ge 5, 3) := by decide +kernel
theorem dX6_isLeast_35 : decode cX6_isLeast 35 = .ok (.iconst 0, 1) := by decide +kernel
theorem dX6_isLeast_36 : decode cX6_isLeast 36 = .ok (.ireturn, 1) := by decide +kernel
theorem dX6_isLeast_37 : decode cX6_isLeast 37 = .ok (.iinc 6 1, 3) := by decide +kernel
theorem dX6_isLeast_40 : decode cX6_isLeast 40 = .ok (.goto (-26), 3) := by decide +kernel
theorem dX6_isLeast_43 : decode cX6_isLeast 43 = .ok (.iconst 1, 1) := by decide +kernel
theorem dX6_isLeast_44 : decode cX6_isLeast 44 = .ok (.ireturn, 1) := by decide +kernel
theorem dX6_loss_0 : decode cX6_loss 0 = .ok (.iconst 0, 1) := by decide +kernel
theorem dX6_loss_1 : decode cX6_loss 1 = .ok (.istore 5, 2) := by decide +kernel
theorem dX6_loss_3 : decode cX6_loss 3 = .ok (.iload_n 2, 1) := by decide +kernel
theorem dX6_loss_4 : decode cX6_loss 4 = .ok (.iload_n 3, 1) := by decide +kernel
theorem dX6_loss_5 : decode cX6_loss 5 = .ok (.if_icmp .ge 9, 3) := by decide +kernel
theorem dX6_loss_8 : decode cX6_loss 8 = .ok (.iconst 4, 1) := by decide +kernel
theorem dX6_loss_9 : decode cX6_loss 9 = .ok (.istore 5, 2) := by decide +kernel
theorem dX6_loss_11 : decode cX6_loss 11 = .ok (.goto 11, 3) := by decide +kernel
theorem dX6_loss_14 : decode cX6_loss 14 = .ok (.iload_n 2, 1) := by decide +kernel
theorem dX6_loss_15 : decode cX6_loss 15 = .ok (.iload_n 3, 1) := by decide +kernel
theorem dX6_loss_16 : decode cX6_loss 16 = .ok (.if_icmp .ne 6, 3) := by decide +kernel
theorem dX6_loss_19 : decode cX6_loss 19 = .ok (.iconst 2, 1) := by decide +kernel
theorem dX6_loss_20 : decode cX6_loss 20 = .ok (.istore 5, 2) := by decide +kernel
theorem dX6_loss_22 : decode cX6_loss 22 = .ok (.iload_n 2, 1) := by decide +kernel
theorem dX6_loss_23 : decode cX6_loss 23 = .ok (.iload_n 3, 1) := by decide +kernel
theorem dX6_loss_24 : decode cX6_loss 24 = .ok (.invokestatic 30, 3) := by decide +kernel
theorem dX6_loss_27 : decode cX6_loss 27 = .ok (.istore 6, 2) := by decide +kernel
theorem dX6_loss_29 : decode cX6_loss 29 = .ok (.iconst 0, 1) := by decide +kernel
theorem dX6_loss_30 : decode cX6_loss 30 = .ok (.istore 7, 2) := by decide +kernel
theorem dX6_loss_32 : decode cX6_loss 32 = .ok (.iload 7, 2) := by decide +kernel
theorem dX6_loss_34 : decode cX6_loss 34 = .ok (.iload 6, 2) := by decide +kernel
theorem dX6_loss_36 : decode cX6_loss 36 = .ok (.if_icmp .ge 31, 3) := by decide +kernel
theorem dX6_loss_39 : decode cX6_loss 39 = .ok (.iload 5, 2) := by decide +kernel
theorem dX6_loss_41 : decode cX6_loss 41 = .ok (.aload_n 0, 1) := by decide +kernel
theorem dX6_loss_42 : decode cX6_loss 42 = .ok (.getfield 9, 3) := by decide +kernel
theorem dX6_loss_45 : decode cX6_loss 45 = .ok (.iload_n 1, 1) := by decide +kernel
theorem dX6_loss_46 : decode cX6_loss 46 = .ok (.iconst 0, 1) := by decide +kernel
theorem dX6_loss_47 : decode cX6_loss 47 = .ok (.iload 4, 2) := by decide +kernel
theorem dX6_loss_49 : decode cX6_loss 49 = .ok (.iload 7, 2) := by decide +kernel
theorem dX6_loss_51 : decode cX6_loss 51 = .ok (.isub, 1) := by decide +kernel
theorem dX6_loss_52 : decode cX6_loss 52 = .ok (.invokestatic 36, 3) := by decide +kernel
theorem dX6_loss_55 : decode cX6_loss 55 = .ok (.invokevirtual 39, 3) := by decide +kernel
theorem dX6_loss_58 : decode cX6_loss 58 = .ok (.iadd, 1) := by decide +kernel
theorem dX6_loss_59 : decode cX6_loss 59 = .ok (.istore 5, 2) := by decide +kernel
theorem dX6_loss_61 : decode cX6_loss 61 = .ok (.iinc 7 1, 3) := by decide +kernel
theorem dX6_loss_64 : decode cX6_loss 64 = .ok (.goto (-32), 3) := by decide +kernel
theorem dX6_loss_67 : decode cX6_loss 67 = .ok (.iload 5, 2) := by decide +kernel
theorem dX6_loss_69 : decode cX6_loss 69 = .ok (.ireturn, 1) := by decide +kernel
theorem dX7_init_0 : decode cX7_init 0 = .ok (.aload_n 0, 1) := by decide +kernel
theorem dX7_init_1 : decode cX7_init 1 = .ok (.invokespecial 3, 3) := by decide +kernel
theorem dX7_init_4 : decode cX7_init 4 = .ok (.aload_n 0, 1) := by decide +kernel
theorem dX7_init_5 : decode cX7_init 5 = .ok (.iconst 4, 1) := by decide +kernel
theorem dX7_init_6 : decode cX7_init 6 = .ok (.newarray .int, 2) := by decide +kernel
theorem dX7_init_8 : decode cX7_init 8 = .ok (.putfield 9, 3) := by decide +kernel
theorem dX7_init_11 : decode cX7_init 11 = .ok (.aload_n 0, 1) := by decide +kernel
theorem dX7_init_12 : decode cX7_init 12 = .ok (.aload_n 1, 1) := by decide +kernel
theorem dX7_init_13 : decode cX7_init 13 = .ok (.putfield 15, 3) := by decide +kernel
theorem dX7_init_16 : decode cX7_init 16 = .ok (.return_, 1) := by decide +kernel
theorem dX7_layAnew_0 : decode cX7_layAnew 0 = .ok (.aload_n 0, 1) := by decide +kernel
theorem dX7_layAnew_1 : decode cX7_layAnew 1 = .ok (.aload_n 0, 1) := by decide +kernel
theorem dX7_layAnew_2 : decode cX7_layAnew 2 = .ok (.getfield 15, 3) := by decide +kernel
theorem dX7_layAnew_5 : decode cX7_layAnew 5 = .ok (.getfield 19, 3) := by decide +kernel
theorem dX7_layAnew_8 : decode cX7_layAnew 8 = .ok (.putfield 25, 3) := by decide +kernel
theorem dX7_layAnew_11 : decode cX7_layAnew 11 = .ok (.aload_n 0, 1) := by decide +kernel
theorem dX7_layAnew_12 : decode cX7_layAnew 12 = .ok (.aload_n 0, 1) := by decide +kernel
theorem dX7_layAnew_13 : decode cX7_layAnew 13 = .ok (.getfield 15, 3) := by decide +kernel
theorem dX7_layAnew_16 : decode cX7_layAnew 16 = .ok (.getfield 28, 3) := by decide +kernel
theorem dX7_layAnew_19 : decode cX7_layAnew 19 = .ok (.putfield 31, 3) := by decide +kernel
theorem dX7_layAnew_22 : decode cX7_layAnew 22 = .ok (.aload_n 0, 1) := by decide +kernel
theorem dX7_layAnew_23 : decode cX7_layAnew 23 = .ok (.iconst 1, 1) := by decide +kernel
theorem dX7_layAnew_24 : decode cX7_layAnew 24 = .ok (.aload_n 0, 1) := by decide +kernel
theorem dX7_layAnew_25 : decode cX7_layAnew 25 = .ok (.getfield 15, 3) := by decide +kernel
theorem dX7_layAnew_28 : decode cX7_layAnew 28 = .ok (.getfield 34, 3) := by decide +kernel
theorem dX7_layAnew_31 : decode cX7_layAnew 31 = .ok (.ishl, 1) := by decide +kernel
theorem dX7_layAnew_32 : decode cX7_layAnew 32 = .ok (.iconst 1, 1) := by decide +kernel
theorem dX7_layAnew_33 : decode cX7_layAnew 33 = .ok (.isub, 1) := by decide +kernel
theorem dX7_layAnew_34 : decode cX7_layAnew 34 = .ok (.putfield 37, 3) := by decide +kernel
theorem dX7_layAnew_37 : decode cX7_layAnew 37 = .ok (.aload_n 0, 1) := by decide +kernel
theorem dX7_layAnew_38 : decode cX7_layAnew 38 = .ok (.iconst 0, 1) := by decide +kernel
theorem dX7_layAnew_39 : decode cX7_layAnew 39 = .ok (.putfield 40, 3) := by decide +kernel
theorem dX7_layAnew_42 : decode cX7_layAnew 42 = .ok (.aload_n 0, 1) := by decide +kernel
theorem dX7_layAnew_43 : decode cX7_layAnew 43 = .ok (.iconst 0, 1) := by decide +kernel
theorem dX7_layAnew_44 : decode cX7_layAnew 44 = .ok (.putfield 43, 3) := by decide +kernel
theorem dX7_layAnew_47 : decode cX7_layAnew 47 = .ok (.aload_n 0, 1) := by decide +kernel
theorem dX7_layAnew_48 : decode cX7_layAnew 48 = .ok (.iconst 0, 1) := by decide +kernel
theorem dX7_layAnew_49 : decode cX7_layAnew 49 = .ok (.putfield 46, 3) := by decide +kernel
theorem dX7_layAnew_52 : decode cX7_layAnew 52 = .ok (.iconst 0, 1) := by decide +kernel
theorem dX7_layAnew_53 : decode cX7_layAnew 53 = .ok (.istore_n 1, 1) := by decide +kernel
theorem dX7_layAnew_54 : decode cX7_layAnew 54 = .ok (.iload_n 1, 1) := by decide +kernel
theorem dX7_layAnew_55 : decode cX7_layAnew 55 = .ok (.iconst 4, 1) := by decide +kernel
theorem dX7_layAnew_56 : decode cX7_layAnew 56 = .ok (.if_icmp .ge 16, 3) := by decide +kernel
theorem dX7_layAnew_59 : decode cX7_layAnew 59 = .ok (.aload_n 0, 1) := by decide +kernel
theorem dX7_layAnew_60 : decode cX7_layAnew 60 = .ok (.getfield 9, 3) := by decide +kernel
theorem dX7_layAnew_63 : decode cX7_layAnew 63 = .ok (.iload_n 1, 1) := by decide +kernel
theorem dX7_layAnew_64 : decode cX7_layAnew 64 = .ok (.iconst 0, 1) := by decide +kernel
theorem dX7_layAnew_65 : decode cX7_layAnew 65 = .ok (.iastore, 1) := by decide +kernel
theorem dX7_layAnew_66 : decode cX7_layAnew 66 = .ok (.iinc 1 1, 3) := by decide +kernel
theorem dX7_layAnew_69 : decode cX7_layAnew 69 = .ok (.goto (-15), 3) := by decide +kernel
theorem dX7_layAnew_72 : decode cX7_layAnew 72 = .ok (.return_, 1) := by decide +kernel
theorem dX7_copyFrom_0 : decode cX7_copyFrom 0 = .ok (.aload_n 0, 1) := by decide +kernel
theorem dX7_copyFrom_1 : decode cX7_copyFrom 1 = .ok (.aload_n 1, 1) := by decide +kernel
theorem dX7_copyFrom_2 : decode cX7_copyFrom 2 = .ok (.getfield 25, 3) := by decide +kernel
theorem dX7_copyFrom_5 : decode cX7_copyFrom 5 = .ok (.putfield 25, 3) := by decide +kernel
theorem dX7_copyFrom_8 : decode cX7_copyFrom 8 = .ok (.aload_n 0, 1) := by decide +kernel
theorem dX7_copyFrom_9 : decode cX7_copyFrom 9 = .ok (.aload_n 1, 1) := by decide +kernel
theorem dX7_copyFrom_10 : decode cX7_copyFrom 10 = .ok (.getfield 31, 3) := by decide +kernel
theorem dX7_copyFrom_13 : decode cX7_copyFrom 13 = .ok (.putfield 31, 3) := by decide +kernel
theorem dX7_copyFrom_16 : decode cX7_copyFrom 16 = .ok (.aload_n 0, 1) := by decide +kernel
theorem dX7_copyFrom_17 : decode cX7_copyFrom 17 = .ok (.aload_n 1, 1) := by decide +kernel
theorem dX7_copyFrom_18 : decode cX7_copyFrom 18 = .ok (.getfield 37, 3) := by decide +kernel
theorem dX7_copyFrom_21 : decode cX7_copyFrom 21 = .ok (.putfield 37, 3) := by decide +kernel
theorem dX7_copyFrom_24 : decode cX7_copyFrom 24 = .ok (.aload_n 0, 1) := by decide +kernel
theorem dX7_copyFrom_25 : decode cX7_copyFrom 25 = .ok (.aload_n 1, 1) := by decide +kernel
theorem dX7_copyFrom_26 : decode cX7_copyFrom 26 = .ok (.getfield 40, 3) := by decide +kernel
theorem dX7_copyFrom_29 : decode cX7_copyFrom 29 = .ok (.putfield 40, 3) := by decide +kernel
theorem dX7_copyFrom_32 : decode cX7_copyFrom 32 = .ok (.aload_n 0, 1) := by decide +kernel
theorem dX7_copyFrom_33 : decode cX7_copyFrom 33 = .ok (.aload_n 1, 1) := by decide +kernel
theorem dX7_copyFrom_34 : decode cX7_copyFrom 34 = .ok (.getfield 43, 3) := by decide +kernel
theorem dX7_copyFrom_37 : decode cX7_copyFrom 37 = .ok (.putfield 43, 3) := by decide +kernel
theorem dX7_copyFrom_40 : decode cX7_copyFrom 40 = .ok (.aload_n 0, 1) := by decide +kernel
theorem dX7_copyFrom_41 : decode cX7_copyFrom 41 = .ok (.aload_n 1, 1) := by decide +kernel
theorem dX7_copyFrom_42 : decode cX7_copyFrom 42 = .ok (.getfield 46, 3) := by decide +kernel
theorem dX7_copyFrom_45 : decode cX7_copyFrom 45 = .ok (.putfield 46, 3) := by decide +kernel
theorem dX7_copyFrom_48 : decode cX7_copyFrom 48 = .ok (.iconst 0, 1) := by decide +kernel
theorem dX7_copyFrom_49 : decode cX7_copyFrom 49 = .ok (.istore_n 2, 1) := by decide +kernel
theorem dX7_copyFrom_50 : decode cX7_copyFrom 50 = .ok (.iload_n 2, 1) := by decide +kernel
theorem dX7_copyFrom_51 : decode cX7_copyFrom 51 = .ok (.iconst 4, 1) := by decide +kernel
theorem dX7_copyFrom_52 : decode cX7_copyFrom 52 = .ok (.if_icmp .ge 21, 3) := by decide +kernel
theorem dX7_copyFrom_55 : decode cX7_copyFrom 55 = .ok (.aload_n 0, 1) := by decide +kernel
theorem dX7_copyFrom_56 : decode cX7_copyFrom 56 = .ok (.getfield 9, 3) := by decide +kernel
theorem dX7_copyFrom_59 : decode cX7_copyFrom 59 = .ok (.iload_n 2, 1) := by decide +kernel
theorem dX7_copyFrom_60 : decode cX7_copyFrom 60 = .ok (.aload_n 1, 1) := by decide +kernel
theorem dX7_copyFrom_61 : decode cX7_copyFrom 61 = .ok (.getfield 9, 3) := by decide +kernel
theorem dX7_copyFrom_64 : decode cX7_copyFrom 64 = .ok (.iload_n 2, 1) := by decide +kernel
theorem dX7_copyFrom_65 : decode cX7_copyFrom 65 = .ok (.iaload, 1) := by decide +kernel
theorem dX7_copyFrom_66 : decode cX7_copyFrom 66 = .ok (.iastore, 1) := by decide +kernel
theorem dX7_copyFrom_67 : decode cX7_copyFrom 67 = .ok (.iinc 2 1, 3) := by decide +kernel
theorem dX7_copyFrom_70 : decode cX7_copyFrom 70 = .ok (.goto (-20), 3) := by decide +kernel
theorem dX7_copyFrom_73 : decode cX7_copyFrom 73 = .ok (.return_, 1) := by decide +kernel
theorem dX7_eats_0 : decode cX7_eats 0 = .ok (.aload_n 0, 1) := by decide +kernel
theorem dX7_eats_1 : decode cX7_eats 1 = .ok (.getfield 37, 3) := by decide +kernel
theorem dX7_eats_4 : decode cX7_eats 4 = .ok (.iload_n 1, 1) := by decide +kernel
theorem dX7_eats_5 : decode cX7_eats 5 = .ok (.ishr, 1) := by decide +kernel
theorem dX7_eats_6 : decode cX7_eats 6 = .ok (.iconst 1, 1) := by decide +kernel
theorem dX7_eats_7 : decode cX7_eats 7 = .ok (.iand, 1) := by decide +kernel
theorem dX7_eats_8 : decode cX7_eats 8 = .ok (.ifCond .eq 7, 3) := by decide +kernel
theorem dX7_eats_11 : decode cX7_eats 11 = .ok (.iconst 1, 1) := by decide +kernel
theorem dX7_eats_12 : decode cX7_eats 12 = .ok (.goto 4, 3) := by decide +kernel
theorem dX7_eats_15 : decode cX7_eats 15 = .ok (.iconst 0, 1) := by decide +kernel
theorem dX7_eats_16 : decode cX7_eats 16 = .ok (.ireturn, 1) := by decide +kernel
theorem dX7_hadBread_0 : decode cX7_hadBread 0 = .ok (.aload_n 0, 1) := by decide +kernel
theorem dX7_hadBread_1 : decode cX7_hadBread 1 = .ok (.getfield 40, 3) := by decide +kernel
theorem dX7_hadBread_4 : decode cX7_hadBread 4 = .ok (.iload_n 1, 1) := by decide +kernel
theorem dX7_hadBread_5 : decode cX7_hadBread 5 = .ok (.ishr, 1) := by decide +kernel
theorem dX7_hadBread_6 : decode cX7_hadBread 6 = .ok (.iconst 1, 1) := by decide +kernel
theorem dX7_hadBread_7 : decode cX7_hadBread 7 = .ok (.iand, 1) := by decide +kernel
theorem dX7_hadBread_8 : decode cX7_hadBread 8 = .ok (.ifCond .eq 7, 3) := by decide +kernel
theorem dX7_hadBread_11 : decode cX7_hadBread 11 = .ok (.iconst 1, 1) := by decide +kernel
theorem dX7_hadBread_12 : decode cX7_hadBread 12 = .ok (.goto 4, 3) := by decide +kernel
theorem dX7_hadBread_15 : decode cX7_hadBread 15 = .ok (.iconst 0, 1) := by decide +kernel
theorem dX7_hadBread_16 : decode cX7_hadBread 16 = .ok (.ireturn, 1) := by decide +kernel
theorem dX7_isBound_0 : decode cX7_isBound 0 = .ok (.aload_n 0, 1) := by decide +kernel
theorem dX7_isBound_1 : decode cX7_isBound 1 = .ok (.getfield 43, 3) := by decide +kernel
theorem dX7_isBound_4 : decode cX7_isBound 4 = .ok (.iload_n 1, 1) := by decide +kernel
theorem dX7_isBound_5 : decode cX7_isBound 5 = .ok (.ishr, 1) := by decide +kernel
theorem dX7_isBound_6 : decode cX7_isBound 6 = .ok (.iconst 1, 1) := by decide +kernel
theorem dX7_isBound_7 : decode cX7_isBound 7 = .ok (.iand, 1) := by decide +kernel
theorem dX7_isBound_8 : decode cX7_isBound 8 = .ok (.ifCond .eq 7, 3) := by decide +kernel
theorem dX7_isBound_11 : decode cX7_isBound 11 = .ok (.iconst 1, 1) := by decide +kernel
theorem dX7_isBound_12 : decode cX7_isBound 12 = .ok (.goto 4, 3) := by decide +kernel
theorem dX7_isBound_15 : decode cX7_isBound 15 = .ok (.iconst 0, 1) := by decide +kernel
theorem dX7_isBound_16 : decode cX7_isBound 16 = .ok (.ireturn, 1) := by decide +kernel
theorem dX7_canBeSaid_0 : decode cX7_canBeSaid 0 = .ok (.aload_n 0, 1) := by decide +kernel
theorem dX7_canBeSaid_1 : decode cX7_canBeSaid 1 = .ok (.getfield 15, 3) := by decide +kernel
theorem dX7_canBeSaid_4 : decode cX7_canBeSaid 4 = .ok (.iload_n 1, 1) := by decide +kernel
theorem dX7_canBeSaid_5 : decode cX7_canBeSaid 5 = .ok (.invokevirtual 49, 3) := by decide +kernel
theorem dX7_canBeSaid_8 : decode cX7_canBeSaid 8 = .ok (.ifCond .eq 66, 3) := by decide +kernel
theorem dX7_canBeSaid_11 : decode cX7_canBeSaid 11 = .ok (.aload_n 0, 1) := by decide +kernel
theorem dX7_canBeSaid_12 : decode cX7_canBeSaid 12 = .ok (.iload_n 1, 1) := by decide +kernel
theorem dX7_canBeSaid_13 : decode cX7_canBeSaid 13 = .ok (.invokevirtual 53, 3) := by decide +kernel
theorem dX7_canBeSaid_16 : decode cX7_canBeSaid 16 = .ok (.ifCond .ne 58, 3) := by decide +kernel
theorem dX7_canBeSaid_19 : decode cX7_canBeSaid 19 = .ok (.aload_n 0, 1) := by decide +kernel
theorem dX7_canBeSaid_20 : decode cX7_canBeSaid 20 = .ok (.aload_n 0, 1) := by decide +kernel
theorem dX7_canBeSaid_21 : decode cX7_canBeSaid 21 = .ok (.getfield 15, 3) := by decide +kernel
theorem dX7_canBeSaid_24 : decode cX7_canBeSaid 24 = .ok (.getfield 56, 3) := by decide +kernel
theorem dX7_canBeSaid_27 : decode cX7_canBeSaid 27 = .ok (.iload_n 1, 1) := by decide +kernel
theorem dX7_canBeSaid_28 : decode cX7_canBeSaid 28 = .ok (.iaload, 1) := by decide +kernel
theorem dX7_canBeSaid_29 : decode cX7_canBeSaid 29 = .ok (.invokevirtual 59, 3) := by decide +kernel
theorem dX7_canBeSaid_32 : decode cX7_canBeSaid 32 = .ok (.ifCond .eq 42, 3) := by decide +kernel
theorem dX7_canBeSaid_35 : decode cX7_canBeSaid 35 = .ok (.aload_n 0, 1) := by decide +kernel
theorem dX7_canBeSaid_36 : decode cX7_canBeSaid 36 = .ok (.getfield 25, 3) := by decide +kernel
theorem dX7_canBeSaid_39 : decode cX7_canBeSaid 39 = .ok (.aload_n 0, 1) := by decide +kernel
theorem dX7_canBeSaid_40 : decode cX7_canBeSaid 40 = .ok (.getfield 15, 3) := by decide +kernel
theorem dX7_canBeSaid_43 : decode cX7_canBeSaid 43 = .ok (.getfield 62, 3) := by decide +kernel
theorem dX7_canBeSaid_46 : decode cX7_canBeSaid 46 = .ok (.iload_n 1, 1) := by decide +kernel
theorem dX7_canBeSaid_47 : decode cX7_canBeSaid 47 = .ok (.iaload, 1) := by decide +kernel
theorem dX7_canBeSaid_48 : decode cX7_canBeSaid 48 = .ok (.if_icmp .lt 26, 3) := by decide +kernel
theorem dX7_canBeSaid_51 : decode cX7_canBeSaid 51 = .ok (.aload_n 0, 1) := by decide +kernel
theorem dX7_canBeSaid_52 : decode cX7_canBeSaid 52 = .ok (.getfield 15, 3) := by decide +kernel
theorem dX7_canBeSaid_55 : decode cX7_canBeSaid 55 = .ok (.getfield 65, 3) := by decide +kernel
theorem dX7_canBeSaid_58 : decode cX7_canBeSaid 58 = .ok (.iload_n 1, 1) := by decide +kernel
theorem dX7_canBeSaid_59 : decode cX7_canBeSaid 59 = .ok (.iaload, 1) := by decide +kernel
theorem dX7_canBeSaid_60 : decode cX7_canBeSaid 60 = .ok (.aload_n 0, 1) := by decide +kernel
theorem dX7_canBeSaid_61 : decode cX7_canBeSaid 61 = .ok (.getfield 25, 3) := by decide +kernel
theorem dX7_canBeSaid_64 : decode cX7_canBeSaid 64 = .ok (.invokestatic 68, 3) := by decide +kernel
theorem dX7_canBeSaid_67 : decode cX7_canBeSaid 67 = .ok (.if_icmp .gt 7, 3) := by decide +kernel
theorem dX7_canBeSaid_70 : decode cX7_canBeSaid 70 = .ok (.iconst 1, 1) := by decide +kernel
theorem dX7_canBeSaid_71 : decode cX7_canBeSaid 71 = .ok (.goto 4, 3) := by decide +kernel
theorem dX7_canBeSaid_74 : decode cX7_canBeSaid 74 = .ok (.iconst 0, 1) := by decide +kernel
theorem dX7_canBeSaid_75 : decode cX7_canBeSaid 75 = .ok (.ireturn, 1) := by decide +kernel
theorem dX7_sayable_0 : decode cX7_sayable 0 = .ok (.iconst 0, 1) := by decide +kernel
theorem dX7_sayable_1 : decode cX7_sayable 1 = .ok (.istore_n 1, 1) := by decide +kernel
theorem dX7_sayable_2 : decode cX7_sayable 2 = .ok (.iconst 0, 1) := by decide +kernel
theorem dX7_sayable_3 : decode cX7_sayable 3 = .ok (.istore_n 2, 1) := by decide +kernel
theorem dX7_sayable_4 : decode cX7_sayable 4 = .ok (.iload_n 2, 1) := by decide +kernel
theorem dX7_sayable_5 : decode cX7_sayable 5 = .ok (.aload_n 0, 1) := by decide +kernel
theorem dX7_sayable_6 : decode cX7_sayable 6 = .ok (.getfield 15, 3) := by decide +kernel
theorem dX7_sayable_9 : decode cX7_sayable 9 = .ok (.getfield 72, 3) := by decide +kernel
theorem dX7_sayable_12 : decode cX7_sayable 12 = .ok (.if_icmp .ge 23, 3) := by decide +kernel
theorem dX7_sayable_15 : decode cX7_sayable 15 = .ok (.aload_n 0, 1) := by decide +kernel
theorem dX7_sayable_16 : decode cX7_sayable 16 = .ok (.iload_n 2, 1) := by decide +kernel
theorem dX7_sayable_17 : decode cX7_sayable 17 = .ok (.invokevirtual 75, 3) := by decide +kernel
theorem dX7_sayable_20 : decode cX7_sayable 20 = .ok (.ifCond .eq 9, 3) := by decide +kernel
theorem dX7_sayable_23 : decode cX7_sayable 23 = .ok (.iload_n 1, 1) := by decide +kernel
theorem dX7_sayable_24 : decode cX7_sayable 24 = .ok (.iconst 1, 1) := by decide +kernel
theorem dX7_sayable_25 : decode cX7_sayable 25 = .ok (.iload_n 2, 1) := by decide +kernel
theorem dX7_sayable_26 : decode cX7_sayable 26 = .ok (.ishl, 1) := by decide +kernel
theorem dX7_sayable_27 : decode cX7_sayable 27 = .ok (.ior, 1) := by decide +kernel
theorem dX7_sayable_28 : decode cX7_sayable 28 = .ok (.istore_n 1, 1) := by decide +kernel
theorem dX7_sayable_29 : decode cX7_sayable 29 = .ok (.iinc 2 1, 3) := by decide +kernel
theorem dX7_sayable_32 : decode cX7_sayable 32 = .ok (.goto (-28), 3) := by decide +kernel
theorem dX7_sayable_35 : decode cX7_sayable 35 = .ok (.iload_n 1, 1) := by decide +kernel
theorem dX7_sayable_36 : decode cX7_sayable 36 = .ok (.ireturn, 1) := by decide +kernel
theorem dX7_takeBite_0 : decode cX7_takeBite 0 = .ok (.iconst 0, 1) := by decide +kernel
theorem dX7_takeBite_1 : decode cX7_takeBite 1 = .ok (.istore_n 1, 1) := by decide +kernel
theorem dX7_takeBite_2 : decode cX7_takeBite 2 = .ok (.iload_n 1, 1) := by decide +kernel
theorem dX7_takeBite_3 : decode cX7_takeBite 3 = .ok (.aload_n 0, 1) := by decide +kernel
theorem dX7_takeBite_4 : decode cX7_takeBite 4 = .ok (.getfield 15, 3) := by decide +kernel
theorem dX7_takeBite_7 : decode cX7_takeBite 7 = .ok (.getfield 34, 3) := by decide +kernel
theorem dX7_takeBite_10 : decode cX7_takeBite 10 = .ok (.if_icmp .ge 69, 3) := by decide +kernel
theorem dX7_takeBite_13 : decode cX7_takeBite 13 = .ok (.aload_n 0, 1) := by decide +kernel
theorem dX7_takeBite_14 : decode cX7_takeBite 14 = .ok (.iload_n 1, 1) := by decide +kernel
theorem dX7_takeBite_15 : decode cX7_takeBite 15 = .ok (.invokevirtual 59, 3) := by decide +kernel
theorem dX7_takeBite_18 : decode cX7_takeBite 18 = .ok (.ifCond .eq 55, 3) := by decide +kernel
theorem dX7_takeBite_21 : decode cX7_takeBite 21 = .ok (.aload_n 0, 1) := by decide +kernel
theorem dX7_takeBite_22 : decode cX7_takeBite 22 = .ok (.getfield 9, 3) := by decide +kernel
theorem dX7_takeBite_25 : decode cX7_takeBite 25 = .ok (.iload_n 1, 1) := by decide +kernel
theorem dX7_takeBite_26 : decode cX7_takeBite 26 = .ok (.dup2, 1) := by decide +kernel
theorem dX7_takeBite_27 : decode cX7_takeBite 27 = .ok (.iaload, 1) := by decide +kernel
theorem dX7_takeBite_28 : decode cX7_takeBite 28 = .ok (.aload_n 0, 1) := by decide +kernel
theorem dX7_takeBite_29 : decode cX7_takeBite 29 = .ok (.getfield 15, 3) := by decide +kernel
theorem dX7_takeBite_32 : decode cX7_takeBite 32 = .ok (.iload_n 1, 1) := by decide +kernel
theorem dX7_takeBite_33 : decode cX7_takeBite 33 = .ok (.aload_n 0, 1) := by decide +kernel
theorem dX7_takeBite_34 : decode cX7_takeBite 34 = .ok (.getfield 25, 3) := by decide +kernel
theorem dX7_takeBite_37 : decode cX7_takeBite 37 = .ok (.invokevirtual 78, 3) := by decide +kernel
theorem dX7_takeBite_40 : decode cX7_takeBite 40 = .ok (.iadd, 1) := by decide +kernel
theorem dX7_takeBite_41 : decode cX7_takeBite 41 = .ok (.iastore, 1) := by decide +kernel
theorem dX7_takeBite_42 : decode cX7_takeBite 42 = .ok (.aload_n 0, 1) := by decide +kernel
theorem dX7_takeBite_43 : decode cX7_takeBite 43 = .ok (.getfield 9, 3) := by decide +kernel
theorem dX7_takeBite_46 : decode cX7_takeBite 46 = .ok (.iload_n 1, 1) := by decide +kernel
theorem dX7_takeBite_47 : decode cX7_takeBite 47 = .ok (.iaload, 1) := by decide +kernel
theorem dX7_takeBite_48 : decode cX7_takeBite 48 = .ok (.aload_n 0, 1) := by decide +kernel
theorem dX7_takeBite_49 : decode cX7_takeBite 49 = .ok (.getfield 15, 3) := by decide +kernel
theorem dX7_takeBite_52 : decode cX7_takeBite 52 = .ok (.iload_n 1, 1) := by decide +kernel
theorem dX7_takeBite_53 : decode cX7_takeBite 53 = .ok (.invokevirtual 82, 3) := by decide +kernel
theorem dX7_takeBite_56 : decode cX7_takeBite 56 = .ok (.if_icmp .lt 17, 3) := by decide +kernel
theorem dX7_takeBite_59 : decode cX7_takeBite 59 = .ok (.aload_n 0, 1) := by decide +kernel
theorem dX7_takeBite_60 : decode cX7_takeBite 60 = .ok (.dup, 1) := by decide +kernel
theorem dX7_takeBite_61 : decode cX7_takeBite 61 = .ok (.getfield 37, 3) := by decide +kernel
theorem dX7_takeBite_64 : decode cX7_takeBite 64 = .ok (.iconst 1, 1) := by decide +kernel
theorem dX7_takeBite_65 : decode cX7_takeBite 65 = .ok (.iload_n 1, 1) := by decide +kernel
theorem dX7_takeBite_66 : decode cX7_takeBite 66 = .ok (.ishl, 1) := by decide +kernel
theorem dX7_takeBite_67 : decode cX7_takeBite 67 = .ok (.iconst (-1), 1) := by decide +kernel
theorem dX7_takeBite_68 : decode cX7_takeBite 68 = .ok (.ixor, 1) := by decide +kernel
theorem dX7_takeBite_69 : decode cX7_takeBite 69 = .ok (.iand, 1) := by decide +kernel
theorem dX7_takeBite_70 : decode cX7_takeBite 70 = .ok (.putfield 37, 3) := by decide +kernel
theorem dX7_takeBite_73 : decode cX7_takeBite 73 = .ok (.iinc 1 1, 3) := by decide +kernel
theorem dX7_takeBite_76 : decode cX7_takeBite 76 = .ok (.goto (-74), 3) := by decide +kernel
theorem dX7_takeBite_79 : decode cX7_takeBite 79 = .ok (.aload_n 0, 1) := by decide +kernel
theorem dX7_takeBite_80 : decode cX7_takeBite 80 = .ok (.iconst 0, 1) := by decide +kernel
theorem dX7_takeBite_81 : decode cX7_takeBite 81 = .ok (.aload_n 0, 1) := by decide +kernel
theorem dX7_takeBite_82 : decode cX7_takeBite 82 = .ok (.getfield 25, 3) := by decide +kernel
theorem dX7_takeBite_85 : decode cX7_takeBite 85 = .ok (.iconst 1, 1) := by decide +kernel
theorem dX7_takeBite_86 : decode cX7_takeBite 86 = .ok (.isub, 1) := by decide +kernel
theorem dX7_takeBite_87 : decode cX7_takeBite 87 = .ok (.invokestatic 85, 3) := by decide +kernel
theorem dX7_takeBite_90 : decode cX7_takeBite 90 = .ok (.putfield 25, 3) := by decide +kernel
theorem dX7_takeBite_93 : decode cX7_takeBite 93 = .ok (.aload_n 0, 1) := by decide +kernel
theorem dX7_takeBite_94 : decode cX7_takeBite 94 = .ok (.dup, 1) := by decide +kernel
theorem dX7_takeBite_95 : decode cX7_takeBite 95 = .ok (.getfield 46, 3) := by decide +kernel
theorem dX7_takeBite_98 : decode cX7_takeBite 98 = .ok (.iconst 1, 1) := by decide +kernel
theorem dX7_takeBite_99 : decode cX7_takeBite 99 = .ok (.iadd, 1) := by decide +kernel
theorem dX7_takeBite_100 : decode cX7_takeBite 100 = .ok (.putfield 46, 3) := by decide +kernel
theorem dX7_takeBite_103 : decode cX7_takeBite 103 = .ok (.return_, 1) := by decide +kernel
theorem dX7_bind_0 : decode cX7_bind 0 = .ok (.aload_n 0, 1) := by decide +kernel
theorem dX7_bind_1 : decode cX7_bind 1 = .ok (.dup, 1) := by decide +kernel
theorem dX7_bind_2 : decode cX7_bind 2 = .ok (.getfield 43, 3) := by decide +kernel
theorem dX7_bind_5 : decode cX7_bind 5 = .ok (.iconst 1, 1) := by decide +kernel
theorem dX7_bind_6 : decode cX7_bind 6 = .ok (.iload_n 1, 1) := by decide +kernel
theorem dX7_bind_7 : decode cX7_bind 7 = .ok (.ishl, 1) := by decide +kernel
theorem dX7_bind_8 : decode cX7_bind 8 = .ok (.ior, 1) := by decide +kernel
theorem dX7_bind_9 : decode cX7_bind 9 = .ok (.putfield 43, 3) := by decide +kernel
theorem dX7_bind_12 : decode cX7_bind 12 = .ok (.return_, 1) := by decide +kernel
theorem dX7_putSeed_0 : decode cX7_putSeed 0 = .ok (.aload_n 0, 1) := by decide +kernel
theorem dX7_putSeed_1 : decode cX7_putSeed 1 = .ok (.dup, 1) := by decide +kernel
theorem dX7_putSeed_2 : decode cX7_putSeed 2 = .ok (.getfield 31, 3) := by decide +kernel
theorem dX7_putSeed_5 : decode cX7_putSeed 5 = .ok (.iconst 1, 1) := by decide +kernel
theorem dX7_putSeed_6 : decode cX7_putSeed 6 = .ok (.isub, 1) := by decide +kernel
theorem dX7_putSeed_7 : decode cX7_putSeed 7 = .ok (.putfield 31, 3) := by decide +kernel
theorem dX7_putSeed_10 : decode cX7_putSeed 10 = .ok (.aload_n 0, 1) := by decide +kernel
theorem dX7_putSeed_11 : decode cX7_putSeed 11 = .ok (.bipush 9, 2) := by decide +kernel
theorem dX7_putSeed_13 : decode cX7_putSeed 13 = .ok (.aload_n 0, 1) := by decide +kernel
theorem dX7_putSeed_14 : decode cX7_putSeed 14 = .ok (.getfield 25, 3) := by decide +kernel
theorem dX7_putSeed_17 : decode cX7_putSeed 17 = .ok (.iconst 2, 1) := by decide +kernel
theorem dX7_putSeed_18 : decode cX7_putSeed 18 = .ok (.iadd, 1) := by decide +kernel
theorem dX7_putSeed_19 : decode cX7_putSeed 19 = .ok (.invokestatic 90, 3) := by decide +kernel
theorem dX7_putSeed_22 : decode cX7_putSeed 22 = .ok (.putfield 25, 3) := by decide +kernel
theorem dX7_putSeed_25 : decode cX7_putSeed 25 = .ok (.return_, 1) := by decide +kernel
theorem dX7_takeBread_0 : decode cX7_takeBread 0 = .ok (.aload_n 0, 1) := by decide +kernel
theorem dX7_takeBread_1 : decode cX7_takeBread 1 = .ok (.getfield 9, 3) := by decide +kernel
theorem dX7_takeBread_4 : decode cX7_takeBread 4 = .ok (.iload_n 1, 1) := by decide +kernel
theorem dX7_takeBread_5 : decode cX7_takeBread 5 = .ok (.iconst 0, 1) := by decide +kernel
theorem dX7_takeBread_6 : decode cX7_takeBread 6 = .ok (.aload_n 0, 1) := by decide +kernel
theorem dX7_takeBread_7 : decode cX7_takeBread 7 = .ok (.getfield 9, 3) := by decide +kernel
theorem dX7_takeBread_10 : decode cX7_takeBread 10 = .ok (.iload_n 1, 1) := by decide +kernel
theorem dX7_takeBread_11 : decode cX7_takeBread 11 = .ok (.iaload, 1) := by decide +kernel
theorem dX7_takeBread_12 : decode cX7_takeBread 12 = .ok (.iconst 3, 1) := by decide +kernel
theorem dX7_takeBread_13 : decode cX7_takeBread 13 = .ok (.isub, 1) := by decide +kernel
theorem dX7_takeBread_14 : decode cX7_takeBread 14 = .ok (.invokestatic 85, 3) := by decide +kernel
theorem dX7_takeBread_17 : decode cX7_takeBread 17 = .ok (.iastore, 1) := by decide +kernel
theorem dX7_takeBread_18 : decode cX7_takeBread 18 = .ok (.aload_n 0, 1) := by decide +kernel
theorem dX7_takeBread_19 : decode cX7_takeBread 19 = .ok (.dup, 1) := by decide +kernel
theorem dX7_takeBread_20 : decode cX7_takeBread 20 = .ok (.getfield 40, 3) := by decide +kernel
theorem dX7_takeBread_23 : decode cX7_takeBread 23 = .ok (.iconst 1, 1) := by decide +kernel
theorem dX7_takeBread_24 : decode cX7_takeBread 24 = .ok (.iload_n 1, 1) := by decide +kernel
theorem dX7_takeBread_25 : decode cX7_takeBread 25 = .ok (.ishl, 1) := by decide +kernel
theorem dX7_takeBread_26 : decode cX7_takeBread 26 = .ok (.ior, 1) := by decide +kernel
theorem dX7_takeBread_27 : decode cX7_takeBread 27 = .ok (.putfield 40, 3) := by decide +kernel
theorem dX7_takeBread_30 : decode cX7_takeBread 30 = .ok (.return_, 1) := by decide +kernel
theorem dX7_takeTurn_0 : decode cX7_takeTurn 0 = .ok (.iload_n 1, 1) := by decide +kernel
theorem dX7_takeTurn_1 : decode cX7_takeTurn 1 = .ok (.lookupswitch 72 #[(0, 35), (6, 51), (7, 67)], 35) := by decide +kernel
theorem dX7_takeTurn_36 : decode cX7_takeTurn 36 = .ok (.aload_n 0, 1) := by decide +kernel
theorem dX7_takeTurn_37 : decode cX7_takeTurn 37 = .ok (.getfield 37, 3) := by decide +kernel
theorem dX7_takeTurn_40 : decode cX7_takeTurn 40 = .ok (.ifCond .eq 7, 3) := by decide +kernel
theorem dX7_takeTurn_43 : decode cX7_takeTurn 43 = .ok (.iconst 1, 1) := by decide +kernel
theorem dX7_takeTurn_44 : decode cX7_takeTurn 44 = .ok (.goto 4, 3) := by decide +kernel
theorem dX7_takeTurn_47 : decode cX7_takeTurn 47 = .ok (.iconst 0, 1) := by decide +kernel
theorem dX7_takeTurn_48 : decode cX7_takeTurn 48 = .ok (.istore_n 2, 1) := by decide +kernel
theorem dX7_takeTurn_49 : decode cX7_takeTurn 49 = .ok (.goto 32, 3) := by decide +kernel
theorem dX7_takeTurn_52 : decode cX7_takeTurn 52 = .ok (.aload_n 0, 1) := by decide +kernel
theorem dX7_takeTurn_53 : decode cX7_takeTurn 53 = .ok (.getfield 31, 3) := by decide +kernel
theorem dX7_takeTurn_56 : decode cX7_takeTurn 56 = .ok (.ifCond .le 7, 3) := by decide +kernel
theorem dX7_takeTurn_59 : decode cX7_takeTurn 59 = .ok (.iconst 1, 1) := by decide +kernel
theorem dX7_takeTurn_60 : decode cX7_takeTurn 60 = .ok (.goto 4, 3) := by decide +kernel
theorem dX7_takeTurn_63 : decode cX7_takeTurn 63 = .ok (.iconst 0, 1) := by decide +kernel
theorem dX7_takeTurn_64 : decode cX7_takeTurn 64 = .ok (.istore_n 2, 1) := by decide +kernel
theorem dX7_takeTurn_65 : decode cX7_takeTurn 65 = .ok (.goto 16, 3) := by decide +kernel
theorem dX7_takeTurn_68 : decode cX7_takeTurn 68 = .ok (.iconst 1, 1) := by decide +kernel
theorem dX7_takeTurn_69 : decode cX7_takeTurn 69 = .ok (.istore_n 2, 1) := by decide +kernel
theorem dX7_takeTurn_70 : decode cX7_takeTurn 70 = .ok (.goto 11, 3) := by decide +kernel
theorem dX7_takeTurn_73 : decode cX7_takeTurn 73 = .ok (.aload_n 0, 1) := by decide +kernel
theorem dX7_takeTurn_74 : decode cX7_takeTurn 74 = .ok (.iload_n 1, 1) := by decide +kernel
theorem dX7_takeTurn_75 : decode cX7_takeTurn 75 = .ok (.iconst 1, 1) := by decide +kernel
theorem dX7_takeTurn_76 : decode cX7_takeTurn 76 = .ok (.isub, 1) := by decide +kernel
theorem dX7_takeTurn_77 : decode cX7_takeTurn 77 = .ok (.invokevirtual 75, 3) := by decide +kernel
theorem dX7_takeTurn_80 : decode cX7_takeTurn 80 = .ok (.istore_n 2, 1) := by decide +kernel
theorem dX7_takeTurn_81 : decode cX7_takeTurn 81 = .ok (.iload_n 2, 1) := by decide +kernel
theorem dX7_takeTurn_82 : decode cX7_takeTurn 82 = .ok (.ifCond .eq 8, 3) := by decide +kernel
theorem dX7_takeTurn_85 : decode cX7_takeTurn 85 = .ok (.aload_n 0, 1) := by decide +kernel
theorem dX7_takeTurn_86 : decode cX7_takeTurn 86 = .ok (.iload_n 1, 1) := by decide +kernel
theorem dX7_takeTurn_87 : decode cX7_takeTurn 87 = .ok (.invokevirtual 93, 3) := by decide +kernel
theorem dX7_takeTurn_90 : decode cX7_takeTurn 90 = .ok (.iload_n 2, 1) := by decide +kernel
theorem dX7_takeTurn_91 : decode cX7_takeTurn 91 = .ok (.ireturn, 1) := by decide +kernel
theorem dX7_changeBy_0 : decode cX7_changeBy 0 = .ok (.iload_n 1, 1) := by decide +kernel
theorem dX7_changeBy_1 : decode cX7_changeBy 1 = .ok (.lookupswitch 52 #[(0, 35), (6, 42), (7, 49)], 35) := by decide +kernel
theorem dX7_changeBy_36 : decode cX7_changeBy 36 = .ok (.aload_n 0, 1) := by decide +kernel
theorem dX7_changeBy_37 : decode cX7_changeBy 37 = .ok (.invokevirtual 97, 3) := by decide +kernel
theorem dX7_changeBy_40 : decode cX7_changeBy 40 = .ok (.goto 20, 3) := by decide +kernel
theorem dX7_changeBy_43 : decode cX7_changeBy 43 = .ok (.aload_n 0, 1) := by decide +kernel
theorem dX7_changeBy_44 : decode cX7_changeBy 44 = .ok (.invokevirtual 100, 3) := by decide +kernel
theorem dX7_changeBy_47 : decode cX7_changeBy 47 = .ok (.goto 13, 3) := by decide +kernel
theorem dX7_changeBy_50 : decode cX7_changeBy 50 = .ok (.goto 10, 3) := by decide +kernel
theorem dX7_changeBy_53 : decode cX7_changeBy 53 = .ok (.aload_n 0, 1) := by decide +kernel
theorem dX7_changeBy_54 : decode cX7_changeBy 54 = .ok (.iload_n 1, 1) := by decide +kernel
theorem dX7_changeBy_55 : decode cX7_changeBy 55 = .ok (.iconst 1, 1) := by decide +kernel
theorem dX7_changeBy_56 : decode cX7_changeBy 56 = .ok (.isub, 1) := by decide +kernel
theorem dX7_changeBy_57 : decode cX7_changeBy 57 = .ok (.invokevirtual 103, 3) := by decide +kernel
theorem dX7_changeBy_60 : decode cX7_changeBy 60 = .ok (.return_, 1) := by decide +kernel
theorem dX8_init_0 : decode cX8_init 0 = .ok (.aload_n 0, 1) := by decide +kernel
theorem dX8_init_1 : decode cX8_init 1 = .ok (.invokespecial 1, 3) := by decide +kernel
theorem dX8_init_4 : decode cX8_init 4 = .ok (.aload_n 0, 1) := by decide +kernel
theorem dX8_init_5 : decode cX8_init 5 = .ok (.new 7, 3) := by decide +kernel
theorem dX8_init_8 : decode cX8_init 8 = .ok (.dup, 1) := by decide +kernel
theorem dX8_init_9 : decode cX8_init 9 = .ok (.invokespecial 9, 3) := by decide +kernel
theorem dX8_init_12 : decode cX8_init 12 = .ok (.putfield 10, 3) := by decide +kernel
theorem dX8_init_15 : decode cX8_init 15 = .ok (.aload_n 0, 1) := by decide +kernel
theorem dX8_init_16 : decode cX8_init 16 = .ok (.new 16, 3) := by decide +kernel
theorem dX8_init_19 : decode cX8_init 19 = .ok (.dup, 1) := by decide +kernel
theorem dX8_init_20 : decode cX8_init 20 = .ok (.invokespecial 18, 3) := by decide +kernel
theorem dX8_init_23 : decode cX8_init 23 = .ok (.putfield 19, 3) := by decide +kernel
theorem dX8_init_26 : decode cX8_init 26 = .ok (.aload_n 0, 1) := by decide +kernel
theorem dX8_init_27 : decode cX8_init 27 = .ok (.new 23, 3) := by decide +kernel
theorem dX8_init_30 : decode cX8_init 30 = .ok (.dup, 1) := by decide +kernel
theorem dX8_init_31 : decode cX8_init 31 = .ok (.aload_n 0, 1) := by decide +kernel
theorem dX8_init_32 : decode cX8_init 32 = .ok (.getfield 19, 3) := by decide +kernel
theorem dX8_init_35 : decode cX8_init 35 = .ok (.invokespecial 25, 3) := by decide +kernel
theorem dX8_init_38 : decode cX8_init 38 = .ok (.putfield 28, 3) := by decide +kernel
theorem dX8_init_41 : decode cX8_init 41 = .ok (.aload_n 0, 1) := by decide +kernel
theorem dX8_init_42 : decode cX8_init 42 = .ok (.new 23, 3) := by decide +kernel
theorem dX8_init_45 : decode cX8_init 45 = .ok (.dup, 1) := by decide +kernel
theorem dX8_init_46 : decode cX8_init 46 = .ok (.aload_n 0, 1) := by decide +kernel
theorem dX8_init_47 : decode cX8_init 47 = .ok (.getfield 19, 3) := by decide +kernel
theorem dX8_init_50 : decode cX8_init 50 = .ok (.invokespecial 25, 3) := by decide +kernel
theorem dX8_init_53 : decode cX8_init 53 = .ok (.putfield 32, 3) := by decide +kernel
theorem dX8_init_56 : decode cX8_init 56 = .ok (.aload_n 0, 1) := by decide +kernel
theorem dX8_init_57 : decode cX8_init 57 = .ok (.new 35, 3) := by decide +kernel
theorem dX8_init_60 : decode cX8_init 60 = .ok (.dup, 1) := by decide +kernel
theorem dX8_init_61 : decode cX8_init 61 = .ok (.aload_n 0, 1) := by decide +kernel
theorem dX8_init_62 : decode cX8_init 62 = .ok (.getfield 19, 3) := by decide +kernel
theorem dX8_init_65 : decode cX8_init 65 = .ok (.invokespecial 37, 3) := by decide +kernel
theorem dX8_init_68 : decode cX8_init 68 = .ok (.putfield 38, 3) := by decide +kernel
theorem dX8_init_71 : decode cX8_init 71 = .ok (.aload_n 0, 1) := by decide +kernel
theorem dX8_init_72 : decode cX8_init 72 = .ok (.new 42, 3) := by decide +kernel
theorem dX8_init_75 : decode cX8_init 75 = .ok (.dup, 1) := by decide +kernel
theorem dX8_init_76 : decode cX8_init 76 = .ok (.aload_n 0, 1) := by decide +kernel
theorem dX8_init_77 : decode cX8_init 77 = .ok (.getfield 19, 3) := by decide +kernel
theorem dX8_init_80 : decode cX8_init 80 = .ok (.invokespecial 44, 3) := by decide +kernel
theorem dX8_init_83 : decode cX8_init 83 = .ok (.putfield 45, 3) := by decide +kernel
theorem dX8_init_86 : decode cX8_init 86 = .ok (.aload_n 0, 1) := by decide +kernel
theorem dX8_init_87 : decode cX8_init 87 = .ok (.new 49, 3) := by decide +kernel
theorem dX8_init_90 : decode cX8_init 90 = .ok (.dup, 1) := by decide +kernel
theorem dX8_init_91 : decode cX8_init 91 = .ok (.invokespecial 51, 3) := by decide +kernel
theorem dX8_init_94 : decode cX8_init 94 = .ok (.putfield 52, 3) := by decide +kernel
theorem dX8_init_97 : decode cX8_init 97 = .ok (.aload_n 0, 1) := by decide +kernel
theorem dX8_init_98 : decode cX8_init 98 = .ok (.new 56, 3) := by decide +kernel
theorem dX8_init_101 : decode cX8_init 101 = .ok (.dup, 1) := by decide +kernel
theorem dX8_init_102 : decode cX8_init 102 = .ok (.aload_n 0, 1) := by decide +kernel
theorem dX8_init_103 : decode cX8_init 103 = .ok (.getfield 19, 3) := by decide +kernel
theorem dX8_init_106 : decode cX8_init 106 = .ok (.invokespecial 58, 3) := by decide +kernel
theorem dX8_init_109 : decode cX8_init 109 = .ok (.putfield 59, 3) := by decide +kernel
theorem dX8_init_112 : decode cX8_init 112 = .ok (.aload_n 0, 1) := by decide +kernel
theorem dX8_init_113 : decode cX8_init 113 = .ok (.new 63, 3) := by decide +kernel
theorem dX8_init_116 : decode cX8_init 116 = .ok (.dup, 1) := by decide +kernel
theorem dX8_init_117 : decode cX8_init 117 = .ok (.aload_n 0, 1) := by decide +kernel
theorem dX8_init_118 : decode cX8_init 118 = .ok (.getfield 19, 3) := by decide +kernel
theorem dX8_init_121 : decode cX8_init 121 = .ok (.invokespecial 65, 3) := by decide +kernel
theorem dX8_init_124 : decode cX8_init 124 = .ok (.putfield 66, 3) := by decide +kernel
theorem dX8_init_127 : decode cX8_init 127 = .ok (.return_, 1) := by decide +kernel
theorem dX8_write_0 : decode cX8_write 0 = .ok (.iload_n 1, 1) := by decide +kernel
theorem dX8_write_1 : decode cX8_write 1 = .ok (.ifCond .lt 10, 3) := by decide +kernel
end
section
theorem dX8_write_4 : decode cX8_write 4 = .ok (.iload_n 1, 1) := by decide +kernel
theorem dX8_write_5 : decode cX8_write 5 = .ok (.sipush 255, 3) := by decide +kernel
theorem dX8_write_8 : decode cX8_write 8 = .ok (.if_icmp .le 6, 3) := by decide +kernel
theorem dX8_write_11 : decode cX8_write 11 = .ok (.bipush (-2), 2) := by decide +kernel
theorem dX8_write_13 : decode cX8_write 13 = .ok (.ireturn, 1) := by decide +kernel
theorem dX8_write_14 : decode cX8_write 14 = .ok (.aload_n 0, 1) := by decide +kernel
theorem dX8_write_15 : decode cX8_write 15 = .ok (.getfield 10, 3) := by decide +kernel
theorem dX8_write_18 : decode cX8_write 18 = .ok (.getfield 70, 3) := by decide +kernel
theorem dX8_write_21 : decode cX8_write 21 = .ok (.bipush 48, 2) := by decide +kernel
theorem dX8_write_23 : decode cX8_write 23 = .ok (.if_icmp .lt 6, 3) := by decide +kernel
theorem dX8_write_26 : decode cX8_write 26 = .ok (.bipush (-4), 2) := by decide +kernel
theorem dX8_write_28 : decode cX8_write 28 = .ok (.ireturn, 1) := by decide +kernel
theorem dX8_write_29 : decode cX8_write 29 = .ok (.aload_n 0, 1) := by decide +kernel
theorem dX8_write_30 : decode cX8_write 30 = .ok (.getfield 10, 3) := by decide +kernel
theorem dX8_write_33 : decode cX8_write 33 = .ok (.iload_n 1, 1) := by decide +kernel
theorem dX8_write_34 : decode cX8_write 34 = .ok (.invokevirtual 74, 3) := by decide +kernel
theorem dX8_write_37 : decode cX8_write 37 = .ok (.aload_n 0, 1) := by decide +kernel
theorem dX8_write_38 : decode cX8_write 38 = .ok (.getfield 10, 3) := by decide +kernel
theorem dX8_write_41 : decode cX8_write 41 = .ok (.getfield 70, 3) := by decide +kernel
theorem dX8_write_44 : decode cX8_write 44 = .ok (.ireturn, 1) := by decide +kernel
theorem dX8_wipe_0 : decode cX8_wipe 0 = .ok (.aload_n 0, 1) := by decide +kernel
theorem dX8_wipe_1 : decode cX8_wipe 1 = .ok (.getfield 10, 3) := by decide +kernel
theorem dX8_wipe_4 : decode cX8_wipe 4 = .ok (.getfield 70, 3) := by decide +kernel
theorem dX8_wipe_7 : decode cX8_wipe 7 = .ok (.istore_n 1, 1) := by decide +kernel
theorem dX8_wipe_8 : decode cX8_wipe 8 = .ok (.aload_n 0, 1) := by decide +kernel
theorem dX8_wipe_9 : decode cX8_wipe 9 = .ok (.getfield 10, 3) := by decide +kernel
theorem dX8_wipe_12 : decode cX8_wipe 12 = .ok (.iconst 0, 1) := by decide +kernel
theorem dX8_wipe_13 : decode cX8_wipe 13 = .ok (.putfield 70, 3) := by decide +kernel
theorem dX8_wipe_16 : decode cX8_wipe 16 = .ok (.iload_n 1, 1) := by decide +kernel
theorem dX8_wipe_17 : decode cX8_wipe 17 = .ok (.ireturn, 1) := by decide +kernel
theorem dX8_fault_0 : decode cX8_fault 0 = .ok (.aload_n 0, 1) := by decide +kernel
theorem dX8_fault_1 : decode cX8_fault 1 = .ok (.getfield 10, 3) := by decide +kernel
theorem dX8_fault_4 : decode cX8_fault 4 = .ok (.invokevirtual 78, 3) := by decide +kernel
theorem dX8_fault_7 : decode cX8_fault 7 = .ok (.ireturn, 1) := by decide +kernel
theorem dX8_talk_0 : decode cX8_talk 0 = .ok (.aload_n 0, 1) := by decide +kernel
theorem dX8_talk_1 : decode cX8_talk 1 = .ok (.getfield 10, 3) := by decide +kernel
theorem dX8_talk_4 : decode cX8_talk 4 = .ok (.invokevirtual 78, 3) := by decide +kernel
theorem dX8_talk_7 : decode cX8_talk 7 = .ok (.bipush (-9), 2) := by decide +kernel
theorem dX8_talk_9 : decode cX8_talk 9 = .ok (.if_icmp .eq 6, 3) := by decide +kernel
theorem dX8_talk_12 : decode cX8_talk 12 = .ok (.bipush (-3), 2) := by decide +kernel
theorem dX8_talk_14 : decode cX8_talk 14 = .ok (.ireturn, 1) := by decide +kernel
theorem dX8_talk_15 : decode cX8_talk 15 = .ok (.aload_n 0, 1) := by decide +kernel
theorem dX8_talk_16 : decode cX8_talk 16 = .ok (.getfield 10, 3) := by decide +kernel
theorem dX8_talk_19 : decode cX8_talk 19 = .ok (.aload_n 0, 1) := by decide +kernel
theorem dX8_talk_20 : decode cX8_talk 20 = .ok (.getfield 19, 3) := by decide +kernel
theorem dX8_talk_23 : decode cX8_talk 23 = .ok (.invokevirtual 82, 3) := by decide +kernel
theorem dX8_talk_26 : decode cX8_talk 26 = .ok (.aload_n 0, 1) := by decide +kernel
theorem dX8_talk_27 : decode cX8_talk 27 = .ok (.getfield 28, 3) := by decide +kernel
theorem dX8_talk_30 : decode cX8_talk 30 = .ok (.invokevirtual 85, 3) := by decide +kernel
theorem dX8_talk_33 : decode cX8_talk 33 = .ok (.aload_n 0, 1) := by decide +kernel
theorem dX8_talk_34 : decode cX8_talk 34 = .ok (.getfield 38, 3) := by decide +kernel
theorem dX8_talk_37 : decode cX8_talk 37 = .ok (.invokevirtual 88, 3) := by decide +kernel
theorem dX8_talk_40 : decode cX8_talk 40 = .ok (.aload_n 0, 1) := by decide +kernel
theorem dX8_talk_41 : decode cX8_talk 41 = .ok (.getfield 45, 3) := by decide +kernel
theorem dX8_talk_44 : decode cX8_talk 44 = .ok (.invokevirtual 91, 3) := by decide +kernel
theorem dX8_talk_47 : decode cX8_talk 47 = .ok (.bipush 10, 2) := by decide +kernel
theorem dX8_talk_49 : decode cX8_talk 49 = .ok (.aload_n 0, 1) := by decide +kernel
theorem dX8_talk_50 : decode cX8_talk 50 = .ok (.getfield 19, 3) := by decide +kernel
theorem dX8_talk_53 : decode cX8_talk 53 = .ok (.getfield 92, 3) := by decide +kernel
theorem dX8_talk_56 : decode cX8_talk 56 = .ok (.imul, 1) := by decide +kernel
theorem dX8_talk_57 : decode cX8_talk 57 = .ok (.aload_n 0, 1) := by decide +kernel
theorem dX8_talk_58 : decode cX8_talk 58 = .ok (.getfield 19, 3) := by decide +kernel
theorem dX8_talk_61 : decode cX8_talk 61 = .ok (.getfield 95, 3) := by decide +kernel
theorem dX8_talk_64 : decode cX8_talk 64 = .ok (.iadd, 1) := by decide +kernel
theorem dX8_talk_65 : decode cX8_talk 65 = .ok (.ireturn, 1) := by decide +kernel
theorem dX8_about_0 : decode cX8_about 0 = .ok (.iload_n 1, 1) := by decide +kernel
theorem dX8_about_1 : decode cX8_about 1 = .ok (.tableswitch 147 0 10 #[59, 67, 75, 83, 91, 99, 107, 115, 123, 131, 139], 59) := by decide +kernel
theorem dX8_about_60 : decode cX8_about 60 = .ok (.aload_n 0, 1) := by decide +kernel
theorem dX8_about_61 : decode cX8_about 61 = .ok (.getfield 19, 3) := by decide +kernel
theorem dX8_about_64 : decode cX8_about 64 = .ok (.getfield 92, 3) := by decide +kernel
theorem dX8_about_67 : decode cX8_about 67 = .ok (.ireturn, 1) := by decide +kernel
theorem dX8_about_68 : decode cX8_about 68 = .ok (.aload_n 0, 1) := by decide +kernel
theorem dX8_about_69 : decode cX8_about 69 = .ok (.getfield 19, 3) := by decide +kernel
theorem dX8_about_72 : decode cX8_about 72 = .ok (.getfield 95, 3) := by decide +kernel
theorem dX8_about_75 : decode cX8_about 75 = .ok (.ireturn, 1) := by decide +kernel
theorem dX8_about_76 : decode cX8_about 76 = .ok (.aload_n 0, 1) := by decide +kernel
theorem dX8_about_77 : decode cX8_about 77 = .ok (.getfield 28, 3) := by decide +kernel
theorem dX8_about_80 : decode cX8_about 80 = .ok (.getfield 98, 3) := by decide +kernel
theorem dX8_about_83 : decode cX8_about 83 = .ok (.ireturn, 1) := by decide +kernel
theorem dX8_about_84 : decode cX8_about 84 = .ok (.aload_n 0, 1) := by decide +kernel
theorem dX8_about_85 : decode cX8_about 85 = .ok (.getfield 28, 3) := by decide +kernel
theorem dX8_about_88 : decode cX8_about 88 = .ok (.getfield 101, 3) := by decide +kernel
theorem dX8_about_91 : decode cX8_about 91 = .ok (.ireturn, 1) := by decide +kernel
theorem dX8_about_92 : decode cX8_about 92 = .ok (.aload_n 0, 1) := by decide +kernel
theorem dX8_about_93 : decode cX8_about 93 = .ok (.getfield 28, 3) := by decide +kernel
theorem dX8_about_96 : decode cX8_about 96 = .ok (.getfield 104, 3) := by decide +kernel
theorem dX8_about_99 : decode cX8_about 99 = .ok (.ireturn, 1) := by decide +kernel
theorem dX8_about_100 : decode cX8_about 100 = .ok (.aload_n 0, 1) := by decide +kernel
theorem dX8_about_101 : decode cX8_about 101 = .ok (.getfield 28, 3) := by decide +kernel
theorem dX8_about_104 : decode cX8_about 104 = .ok (.getfield 107, 3) := by decide +kernel
theorem dX8_about_107 : decode cX8_about 107 = .ok (.ireturn, 1) := by decide +kernel
theorem dX8_about_108 : decode cX8_about 108 = .ok (.aload_n 0, 1) := by decide +kernel
theorem dX8_about_109 : decode cX8_about 109 = .ok (.getfield 28, 3) := by decide +kernel
theorem dX8_about_112 : decode cX8_about 112 = .ok (.getfield 110, 3) := by decide +kernel
theorem dX8_about_115 : decode cX8_about 115 = .ok (.ireturn, 1) := by decide +kernel
theorem dX8_about_116 : decode cX8_about 116 = .ok (.aload_n 0, 1) := by decide +kernel
theorem dX8_about_117 : decode cX8_about 117 = .ok (.getfield 28, 3) := by decide +kernel
theorem dX8_about_120 : decode cX8_about 120 = .ok (.invokevirtual 113, 3) := by decide +kernel
theorem dX8_about_123 : decode cX8_about 123 = .ok (.ireturn, 1) := by decide +kernel
theorem dX8_about_124 : decode cX8_about 124 = .ok (.aload_n 0, 1) := by decide +kernel
theorem dX8_about_125 : decode cX8_about 125 = .ok (.getfield 38, 3) := by decide +kernel
theorem dX8_about_128 : decode cX8_about 128 = .ok (.getfield 116, 3) := by decide +kernel
theorem dX8_about_131 : decode cX8_about 131 = .ok (.ireturn, 1) := by decide +kernel
theorem dX8_about_132 : decode cX8_about 132 = .ok (.aload_n 0, 1) := by decide +kernel
theorem dX8_about_133 : decode cX8_about 133 = .ok (.getfield 52, 3) := by decide +kernel
theorem dX8_about_136 : decode cX8_about 136 = .ok (.getfield 119, 3) := by decide +kernel
theorem dX8_about_139 : decode cX8_about 139 = .ok (.ireturn, 1) := by decide +kernel
theorem dX8_about_140 : decode cX8_about 140 = .ok (.aload_n 0, 1) := by decide +kernel
theorem dX8_about_141 : decode cX8_about 141 = .ok (.getfield 10, 3) := by decide +kernel
theorem dX8_about_144 : decode cX8_about 144 = .ok (.getfield 70, 3) := by decide +kernel
theorem dX8_about_147 : decode cX8_about 147 = .ok (.ireturn, 1) := by decide +kernel
theorem dX8_about_148 : decode cX8_about 148 = .ok (.bipush (-2), 2) := by decide +kernel
theorem dX8_about_150 : decode cX8_about 150 = .ok (.ireturn, 1) := by decide +kernel
theorem dX8_envoy_0 : decode cX8_envoy 0 = .ok (.aload_n 0, 1) := by decide +kernel
theorem dX8_envoy_1 : decode cX8_envoy 1 = .ok (.getfield 19, 3) := by decide +kernel
theorem dX8_envoy_4 : decode cX8_envoy 4 = .ok (.iload_n 1, 1) := by decide +kernel
theorem dX8_envoy_5 : decode cX8_envoy 5 = .ok (.invokevirtual 120, 3) := by decide +kernel
theorem dX8_envoy_8 : decode cX8_envoy 8 = .ok (.ifCond .ne 5, 3) := by decide +kernel
theorem dX8_envoy_11 : decode cX8_envoy 11 = .ok (.iconst (-1), 1) := by decide +kernel
theorem dX8_envoy_12 : decode cX8_envoy 12 = .ok (.ireturn, 1) := by decide +kernel
theorem dX8_envoy_13 : decode cX8_envoy 13 = .ok (.iload_n 2, 1) := by decide +kernel
theorem dX8_envoy_14 : decode cX8_envoy 14 = .ok (.tableswitch 111 0 5 #[38, 48, 58, 68, 78, 94], 38) := by decide +kernel
theorem dX8_envoy_52 : decode cX8_envoy 52 = .ok (.aload_n 0, 1) := by decide +kernel
theorem dX8_envoy_53 : decode cX8_envoy 53 = .ok (.getfield 19, 3) := by decide +kernel
theorem dX8_envoy_56 : decode cX8_envoy 56 = .ok (.getfield 124, 3) := by decide +kernel
theorem dX8_envoy_59 : decode cX8_envoy 59 = .ok (.iload_n 1, 1) := by decide +kernel
theorem dX8_envoy_60 : decode cX8_envoy 60 = .ok (.iaload, 1) := by decide +kernel
theorem dX8_envoy_61 : decode cX8_envoy 61 = .ok (.ireturn, 1) := by decide +kernel
theorem dX8_envoy_62 : decode cX8_envoy 62 = .ok (.aload_n 0, 1) := by decide +kernel
theorem dX8_envoy_63 : decode cX8_envoy 63 = .ok (.getfield 19, 3) := by decide +kernel
theorem dX8_envoy_66 : decode cX8_envoy 66 = .ok (.getfield 128, 3) := by decide +kernel
theorem dX8_envoy_69 : decode cX8_envoy 69 = .ok (.iload_n 1, 1) := by decide +kernel
theorem dX8_envoy_70 : decode cX8_envoy 70 = .ok (.iaload, 1) := by decide +kernel
theorem dX8_envoy_71 : decode cX8_envoy 71 = .ok (.ireturn, 1) := by decide +kernel
theorem dX8_envoy_72 : decode cX8_envoy 72 = .ok (.aload_n 0, 1) := by decide +kernel
theorem dX8_envoy_73 : decode cX8_envoy 73 = .ok (.getfield 19, 3) := by decide +kernel
theorem dX8_envoy_76 : decode cX8_envoy 76 = .ok (.getfield 131, 3) := by decide +kernel
theorem dX8_envoy_79 : decode cX8_envoy 79 = .ok (.iload_n 1, 1) := by decide +kernel
theorem dX8_envoy_80 : decode cX8_envoy 80 = .ok (.iaload, 1) := by decide +kernel
theorem dX8_envoy_81 : decode cX8_envoy 81 = .ok (.ireturn, 1) := by decide +kernel
theorem dX8_envoy_82 : decode cX8_envoy 82 = .ok (.aload_n 0, 1) := by decide +kernel
theorem dX8_envoy_83 : decode cX8_envoy 83 = .ok (.getfield 28, 3) := by decide +kernel
theorem dX8_envoy_86 : decode cX8_envoy 86 = .ok (.getfield 134, 3) := by decide +kernel
theorem dX8_envoy_89 : decode cX8_envoy 89 = .ok (.iload_n 1, 1) := by decide +kernel
theorem dX8_envoy_90 : decode cX8_envoy 90 = .ok (.iaload, 1) := by decide +kernel
theorem dX8_envoy_91 : decode cX8_envoy 91 = .ok (.ireturn, 1) := by decide +kernel
theorem dX8_envoy_92 : decode cX8_envoy 92 = .ok (.aload_n 0, 1) := by decide +kernel
theorem dX8_envoy_93 : decode cX8_envoy 93 = .ok (.getfield 19, 3) := by decide +kernel
theorem dX8_envoy_96 : decode cX8_envoy 96 = .ok (.iload_n 1, 1) := by decide +kernel
theorem dX8_envoy_97 : decode cX8_envoy 97 = .ok (.aload_n 0, 1) := by decide +kernel
theorem dX8_envoy_98 : decode cX8_envoy 98 = .ok (.getfield 28, 3) := by decide +kernel
theorem dX8_envoy_101 : decode cX8_envoy 101 = .ok (.getfield 98, 3) := by decide +kernel
theorem dX8_envoy_104 : decode cX8_envoy 104 = .ok (.invokevirtual 137, 3) := by decide +kernel
theorem dX8_envoy_107 : decode cX8_envoy 107 = .ok (.ireturn, 1) := by decide +kernel
theorem dX8_envoy_108 : decode cX8_envoy 108 = .ok (.aload_n 0, 1) := by decide +kernel
theorem dX8_envoy_109 : decode cX8_envoy 109 = .ok (.getfield 28, 3) := by decide +kernel
theorem dX8_envoy_112 : decode cX8_envoy 112 = .ok (.iload_n 1, 1) := by decide +kernel
theorem dX8_envoy_113 : decode cX8_envoy 113 = .ok (.invokevirtual 141, 3) := by decide +kernel
theorem dX8_envoy_116 : decode cX8_envoy 116 = .ok (.ifCond .eq 7, 3) := by decide +kernel
theorem dX8_envoy_119 : decode cX8_envoy 119 = .ok (.iconst 1, 1) := by decide +kernel
theorem dX8_envoy_120 : decode cX8_envoy 120 = .ok (.goto 4, 3) := by decide +kernel
theorem dX8_envoy_123 : decode cX8_envoy 123 = .ok (.iconst 0, 1) := by decide +kernel
theorem dX8_envoy_124 : decode cX8_envoy 124 = .ok (.ireturn, 1) := by decide +kernel
theorem dX8_envoy_125 : decode cX8_envoy 125 = .ok (.bipush (-2), 2) := by decide +kernel
theorem dX8_envoy_127 : decode cX8_envoy 127 = .ok (.ireturn, 1) := by decide +kernel
theorem dX8_clause_0 : decode cX8_clause 0 = .ok (.aload_n 0, 1) := by decide +kernel
theorem dX8_clause_1 : decode cX8_clause 1 = .ok (.getfield 19, 3) := by decide +kernel
theorem dX8_clause_4 : decode cX8_clause 4 = .ok (.iload_n 1, 1) := by decide +kernel
theorem dX8_clause_5 : decode cX8_clause 5 = .ok (.invokevirtual 144, 3) := by decide +kernel
theorem dX8_clause_8 : decode cX8_clause 8 = .ok (.ifCond .ne 5, 3) := by decide +kernel
theorem dX8_clause_11 : decode cX8_clause 11 = .ok (.iconst (-1), 1) := by decide +kernel
theorem dX8_clause_12 : decode cX8_clause 12 = .ok (.ireturn, 1) := by decide +kernel
theorem dX8_clause_13 : decode cX8_clause 13 = .ok (.iload_n 2, 1) := by decide +kernel
theorem dX8_clause_14 : decode cX8_clause 14 = .ok (.tableswitch 69 0 3 #[30, 40, 50, 60], 30) := by decide +kernel
theorem dX8_clause_44 : decode cX8_clause 44 = .ok (.aload_n 0, 1) := by decide +kernel
theorem dX8_clause_45 : decode cX8_clause 45 = .ok (.getfield 19, 3) := by decide +kernel
theorem dX8_clause_48 : decode cX8_clause 48 = .ok (.getfield 147, 3) := by decide +kernel
theorem dX8_clause_51 : decode cX8_clause 51 = .ok (.iload_n 1, 1) := by decide +kernel
theorem dX8_clause_52 : decode cX8_clause 52 = .ok (.iaload, 1) := by decide +kernel
theorem dX8_clause_53 : decode cX8_clause 53 = .ok (.ireturn, 1) := by decide +kernel
theorem dX8_clause_54 : decode cX8_clause 54 = .ok (.aload_n 0, 1) := by decide +kernel
theorem dX8_clause_55 : decode cX8_clause 55 = .ok (.getfield 19, 3) := by decide +kernel
theorem dX8_clause_58 : decode cX8_clause 58 = .ok (.getfield 150, 3) := by decide +kernel
theorem dX8_clause_61 : decode cX8_clause 61 = .ok (.iload_n 1, 1) := by decide +kernel
theorem dX8_clause_62 : decode cX8_clause 62 = .ok (.iaload, 1) := by decide +kernel
theorem dX8_clause_63 : decode cX8_clause 63 = .ok (.ireturn, 1) := by decide +kernel
theorem dX8_clause_64 : decode cX8_clause 64 = .ok (.aload_n 0, 1) := by decide +kernel
theorem dX8_clause_65 : decode cX8_clause 65 = .ok (.getfield 19, 3) := by decide +kernel
theorem dX8_clause_68 : decode cX8_clause 68 = .ok (.getfield 153, 3) := by decide +kernel
theorem dX8_clause_71 : decode cX8_clause 71 = .ok (.iload_n 1, 1) := by decide +kernel
theorem dX8_clause_72 : decode cX8_clause 72 = .ok (.iaload, 1) := by decide +kernel
theorem dX8_clause_73 : decode cX8_clause 73 = .ok (.ireturn, 1) := by decide +kernel
theorem dX8_clause_74 : decode cX8_clause 74 = .ok (.aload_n 0, 1) := by decide +kernel
theorem dX8_clause_75 : decode cX8_clause 75 = .ok (.getfield 19, 3) := by decide +kernel
theorem dX8_clause_78 : decode cX8_clause 78 = .ok (.iload_n 1, 1) := by decide +kernel
theorem dX8_clause_79 : decode cX8_clause 79 = .ok (.invokevirtual 156, 3) := by decide +kernel
theorem dX8_clause_82 : decode cX8_clause 82 = .ok (.ireturn, 1) := by decide +kernel
theorem dX8_clause_83 : decode cX8_clause 83 = .ok (.bipush (-2), 2) := by decide +kernel
theorem dX8_clause_85 : decode cX8_clause 85 = .ok (.ireturn, 1) := by decide +kernel
theorem dX8_bite_0 : decode cX8_bite 0 = .ok (.aload_n 0, 1) := by decide +kernel
theorem dX8_bite_1 : decode cX8_bite 1 = .ok (.getfield 28, 3) := by decide +kernel
theorem dX8_bite_4 : decode cX8_bite 4 = .ok (.getfield 104, 3) := by decide +kernel
theorem dX8_bite_7 : decode cX8_bite 7 = .ok (.ifCond .ne 6, 3) := by decide +kernel
theorem dX8_bite_10 : decode cX8_bite 10 = .ok (.bipush (-3), 2) := by decide +kernel
theorem dX8_bite_12 : decode cX8_bite 12 = .ok (.ireturn, 1) := by decide +kernel
theorem dX8_bite_13 : decode cX8_bite 13 = .ok (.aload_n 0, 1) := by decide +kernel
theorem dX8_bite_14 : decode cX8_bite 14 = .ok (.getfield 38, 3) := by decide +kernel
theorem dX8_bite_17 : decode cX8_bite 17 = .ok (.aload_n 0, 1) := by decide +kernel
theorem dX8_bite_18 : decode cX8_bite 18 = .ok (.getfield 28, 3) := by decide +kernel
theorem dX8_bite_21 : decode cX8_bite 21 = .ok (.invokevirtual 160, 3) := by decide +kernel
theorem dX8_bite_24 : decode cX8_bite 24 = .ok (.aload_n 0, 1) := by decide +kernel
theorem dX8_bite_25 : decode cX8_bite 25 = .ok (.getfield 28, 3) := by decide +kernel
theorem dX8_bite_28 : decode cX8_bite 28 = .ok (.invokevirtual 164, 3) := by decide +kernel
theorem dX8_bite_31 : decode cX8_bite 31 = .ok (.aload_n 0, 1) := by decide +kernel
theorem dX8_bite_32 : decode cX8_bite 32 = .ok (.getfield 28, 3) := by decide +kernel
theorem dX8_bite_35 : decode cX8_bite 35 = .ok (.getfield 104, 3) := by decide +kernel
theorem dX8_bite_38 : decode cX8_bite 38 = .ok (.ireturn, 1) := by decide +kernel
theorem dX8_say_0 : decode cX8_say 0 = .ok (.aload_n 0, 1) := by decide +kernel
theorem dX8_say_1 : decode cX8_say 1 = .ok (.getfield 19, 3) := by decide +kernel
theorem dX8_say_4 : decode cX8_say 4 = .ok (.iload_n 1, 1) := by decide +kernel
theorem dX8_say_5 : decode cX8_say 5 = .ok (.invokevirtual 144, 3) := by decide +kernel
theorem dX8_say_8 : decode cX8_say 8 = .ok (.ifCond .ne 5, 3) := by decide +kernel
theorem dX8_say_11 : decode cX8_say 11 = .ok (.iconst (-1), 1) := by decide +kernel
theorem dX8_say_12 : decode cX8_say 12 = .ok (.ireturn, 1) := by decide +kernel
theorem dX8_say_13 : decode cX8_say 13 = .ok (.aload_n 0, 1) := by decide +kernel
theorem dX8_say_14 : decode cX8_say 14 = .ok (.getfield 28, 3) := by decide +kernel
theorem dX8_say_17 : decode cX8_say 17 = .ok (.iload_n 1, 1) := by decide +kernel
theorem dX8_say_18 : decode cX8_say 18 = .ok (.invokevirtual 167, 3) := by decide +kernel
theorem dX8_say_21 : decode cX8_say 21 = .ok (.ifCond .ne 6, 3) := by decide +kernel
theorem dX8_say_24 : decode cX8_say 24 = .ok (.bipush (-3), 2) := by decide +kernel
theorem dX8_say_26 : decode cX8_say 26 = .ok (.ireturn, 1) := by decide +kernel
theorem dX8_say_27 : decode cX8_say 27 = .ok (.aload_n 0, 1) := by decide +kernel
theorem dX8_say_28 : decode cX8_say 28 = .ok (.getfield 38, 3) := by decide +kernel
theorem dX8_say_31 : decode cX8_say 31 = .ok (.aload_n 0, 1) := by decide +kernel
theorem dX8_say_32 : decode cX8_say 32 = .ok (.getfield 28, 3) := by decide +kernel
theorem dX8_say_35 : decode cX8_say 35 = .ok (.invokevirtual 160, 3) := by decide +kernel
theorem dX8_say_38 : decode cX8_say 38 = .ok (.aload_n 0, 1) := by decide +kernel
theorem dX8_say_39 : decode cX8_say 39 = .ok (.getfield 28, 3) := by decide +kernel
theorem dX8_say_42 : decode cX8_say 42 = .ok (.iload_n 1, 1) := by decide +kernel
theorem dX8_say_43 : decode cX8_say 43 = .ok (.invokevirtual 170, 3) := by decide +kernel
theorem dX8_say_46 : decode cX8_say 46 = .ok (.aload_n 0, 1) := by decide +kernel
theorem dX8_say_47 : decode cX8_say 47 = .ok (.getfield 28, 3) := by decide +kernel
theorem dX8_say_50 : decode cX8_say 50 = .ok (.getfield 107, 3) := by decide +kernel
theorem dX8_say_53 : decode cX8_say 53 = .ok (.ireturn, 1) := by decide +kernel
theorem dX8_spice_0 : decode cX8_spice 0 = .ok (.aload_n 0, 1) := by decide +kernel
theorem dX8_spice_1 : decode cX8_spice 1 = .ok (.getfield 28, 3) := by decide +kernel
theorem dX8_spice_4 : decode cX8_spice 4 = .ok (.getfield 101, 3) := by decide +kernel
theorem dX8_spice_7 : decode cX8_spice 7 = .ok (.ifCond .gt 6, 3) := by decide +kernel
theorem dX8_spice_10 : decode cX8_spice 10 = .ok (.bipush (-3), 2) := by decide +kernel
theorem dX8_spice_12 : decode cX8_spice 12 = .ok (.ireturn, 1) := by decide +kernel
theorem dX8_spice_13 : decode cX8_spice 13 = .ok (.aload_n 0, 1) := by decide +kernel
theorem dX8_spice_14 : decode cX8_spice 14 = .ok (.getfield 38, 3) := by decide +kernel
theorem dX8_spice_17 : decode cX8_spice 17 = .ok (.aload_n 0, 1) := by decide +kernel
theorem dX8_spice_18 : decode cX8_spice 18 = .ok (.getfield 28, 3) := by decide +kernel
theorem dX8_spice_21 : decode cX8_spice 21 = .ok (.invokevirtual 160, 3) := by decide +kernel
theorem dX8_spice_24 : decode cX8_spice 24 = .ok (.aload_n 0, 1) := by decide +kernel
theorem dX8_spice_25 : decode cX8_spice 25 = .ok (.getfield 28, 3) := by decide +kernel
theorem dX8_spice_28 : decode cX8_spice 28 = .ok (.invokevirtual 173, 3) := by decide +kernel
theorem dX8_spice_31 : decode cX8_spice 31 = .ok (.aload_n 0, 1) := by decide +kernel
theorem dX8_spice_32 : decode cX8_spice 32 = .ok (.getfield 28, 3) := by decide +kernel
theorem dX8_spice_35 : decode cX8_spice 35 = .ok (.getfield 98, 3) := by decide +kernel
theorem dX8_spice_38 : decode cX8_spice 38 = .ok (.ireturn, 1) := by decide +kernel
theorem dX8_bread_0 : decode cX8_bread 0 = .ok (.aload_n 0, 1) := by decide +kernel
theorem dX8_bread_1 : decode cX8_bread 1 = .ok (.getfield 19, 3) := by decide +kernel
theorem dX8_bread_4 : decode cX8_bread 4 = .ok (.iload_n 1, 1) := by decide +kernel
theorem dX8_bread_5 : decode cX8_bread 5 = .ok (.invokevirtual 120, 3) := by decide +kernel
theorem dX8_bread_8 : decode cX8_bread 8 = .ok (.ifCond .ne 5, 3) := by decide +kernel
theorem dX8_bread_11 : decode cX8_bread 11 = .ok (.iconst (-1), 1) := by decide +kernel
theorem dX8_bread_12 : decode cX8_bread 12 = .ok (.ireturn, 1) := by decide +kernel
theorem dX8_bread_13 : decode cX8_bread 13 = .ok (.aload_n 0, 1) := by decide +kernel
theorem dX8_bread_14 : decode cX8_bread 14 = .ok (.getfield 28, 3) := by decide +kernel
theorem dX8_bread_17 : decode cX8_bread 17 = .ok (.iload_n 1, 1) := by decide +kernel
theorem dX8_bread_18 : decode cX8_bread 18 = .ok (.invokevirtual 176, 3) := by decide +kernel
theorem dX8_bread_21 : decode cX8_bread 21 = .ok (.ifCond .eq 14, 3) := by decide +kernel
theorem dX8_bread_24 : decode cX8_bread 24 = .ok (.aload_n 0, 1) := by decide +kernel
theorem dX8_bread_25 : decode cX8_bread 25 = .ok (.getfield 28, 3) := by decide +kernel
theorem dX8_bread_28 : decode cX8_bread 28 = .ok (.iload_n 1, 1) := by decide +kernel
theorem dX8_bread_29 : decode cX8_bread 29 = .ok (.invokevirtual 141, 3) := by decide +kernel
theorem dX8_bread_32 : decode cX8_bread 32 = .ok (.ifCond .eq 6, 3) := by decide +kernel
theorem dX8_bread_35 : decode cX8_bread 35 = .ok (.bipush (-3), 2) := by decide +kernel
theorem dX8_bread_37 : decode cX8_bread 37 = .ok (.ireturn, 1) := by decide +kernel
theorem dX8_bread_38 : decode cX8_bread 38 = .ok (.aload_n 0, 1) := by decide +kernel
theorem dX8_bread_39 : decode cX8_bread 39 = .ok (.getfield 38, 3) := by decide +kernel
theorem dX8_bread_42 : decode cX8_bread 42 = .ok (.aload_n 0, 1) := by decide +kernel
theorem dX8_bread_43 : decode cX8_bread 43 = .ok (.getfield 28, 3) := by decide +kernel
theorem dX8_bread_46 : decode cX8_bread 46 = .ok (.invokevirtual 160, 3) := by decide +kernel
theorem dX8_bread_49 : decode cX8_bread 49 = .ok (.aload_n 0, 1) := by decide +kernel
theorem dX8_bread_50 : decode cX8_bread 50 = .ok (.getfield 28, 3) := by decide +kernel
theorem dX8_bread_53 : decode cX8_bread 53 = .ok (.iload_n 1, 1) := by decide +kernel
theorem dX8_bread_54 : decode cX8_bread 54 = .ok (.invokevirtual 179, 3) := by decide +kernel
theorem dX8_bread_57 : decode cX8_bread 57 = .ok (.aload_n 0, 1) := by decide +kernel
theorem dX8_bread_58 : decode cX8_bread 58 = .ok (.getfield 28, 3) := by decide +kernel
theorem dX8_bread_61 : decode cX8_bread 61 = .ok (.getfield 134, 3) := by decide +kernel
theorem dX8_bread_64 : decode cX8_bread 64 = .ok (.iload_n 1, 1) := by decide +kernel
theorem dX8_bread_65 : decode cX8_bread 65 = .ok (.iaload, 1) := by decide +kernel
theorem dX8_bread_66 : decode cX8_bread 66 = .ok (.ireturn, 1) := by decide +kernel
theorem dX8_undo_0 : decode cX8_undo 0 = .ok (.aload_n 0, 1) := by decide +kernel
theorem dX8_undo_1 : decode cX8_undo 1 = .ok (.getfield 38, 3) := by decide +kernel
theorem dX8_undo_4 : decode cX8_undo 4 = .ok (.getfield 116, 3) := by decide +kernel
theorem dX8_undo_7 : decode cX8_undo 7 = .ok (.ifCond .gt 6, 3) := by decide +kernel
theorem dX8_undo_10 : decode cX8_undo 10 = .ok (.bipush (-3), 2) := by decide +kernel
theorem dX8_undo_12 : decode cX8_undo 12 = .ok (.ireturn, 1) := by decide +kernel
theorem dX8_undo_13 : decode cX8_undo 13 = .ok (.aload_n 0, 1) := by decide +kernel
theorem dX8_undo_14 : decode cX8_undo 14 = .ok (.getfield 38, 3) := by decide +kernel
theorem dX8_undo_17 : decode cX8_undo 17 = .ok (.aload_n 0, 1) := by decide +kernel
theorem dX8_undo_18 : decode cX8_undo 18 = .ok (.getfield 28, 3) := by decide +kernel
theorem dX8_undo_21 : decode cX8_undo 21 = .ok (.invokevirtual 182, 3) := by decide +kernel
theorem dX8_undo_24 : decode cX8_undo 24 = .ok (.aload_n 0, 1) := by decide +kernel
theorem dX8_undo_25 : decode cX8_undo 25 = .ok (.getfield 38, 3) := by decide +kernel
theorem dX8_undo_28 : decode cX8_undo 28 = .ok (.getfield 116, 3) := by decide +kernel
theorem dX8_undo_31 : decode cX8_undo 31 = .ok (.ireturn, 1) := by decide +kernel
theorem dX8_lasts_0 : decode cX8_lasts 0 = .ok (.bipush 15, 2) := by decide +kernel
theorem dX8_lasts_2 : decode cX8_lasts 2 = .ok (.istore_n 1, 1) := by decide +kernel
theorem dX8_lasts_3 : decode cX8_lasts 3 = .ok (.aload_n 0, 1) := by decide +kernel
theorem dX8_lasts_4 : decode cX8_lasts 4 = .ok (.iload_n 1, 1) := by decide +kernel
theorem dX8_lasts_5 : decode cX8_lasts 5 = .ok (.invokevirtual 185, 3) := by decide +kernel
theorem dX8_lasts_8 : decode cX8_lasts 8 = .ok (.ireturn, 1) := by decide +kernel
theorem dX8_bears_0 : decode cX8_bears 0 = .ok (.aload_n 0, 1) := by decide +kernel
theorem dX8_bears_1 : decode cX8_bears 1 = .ok (.getfield 19, 3) := by decide +kernel
theorem dX8_bears_4 : decode cX8_bears 4 = .ok (.iload_n 1, 1) := by decide +kernel
theorem dX8_bears_5 : decode cX8_bears 5 = .ok (.invokevirtual 120, 3) := by decide +kernel
theorem dX8_bears_8 : decode cX8_bears 8 = .ok (.ifCond .ne 5, 3) := by decide +kernel
theorem dX8_bears_11 : decode cX8_bears 11 = .ok (.iconst (-1), 1) := by decide +kernel
theorem dX8_bears_12 : decode cX8_bears 12 = .ok (.ireturn, 1) := by decide +kernel
theorem dX8_bears_13 : decode cX8_bears 13 = .ok (.aload_n 0, 1) := by decide +kernel
theorem dX8_bears_14 : decode cX8_bears 14 = .ok (.getfield 28, 3) := by decide +kernel
theorem dX8_bears_17 : decode cX8_bears 17 = .ok (.iload_n 1, 1) := by decide +kernel
theorem dX8_bears_18 : decode cX8_bears 18 = .ok (.invokevirtual 176, 3) := by decide +kernel
theorem dX8_bears_21 : decode cX8_bears 21 = .ok (.ifCond .ne 6, 3) := by decide +kernel
theorem dX8_bears_24 : decode cX8_bears 24 = .ok (.bipush (-3), 2) := by decide +kernel
theorem dX8_bears_26 : decode cX8_bears 26 = .ok (.ireturn, 1) := by decide +kernel
theorem dX8_bears_27 : decode cX8_bears 27 = .ok (.aload_n 0, 1) := by decide +kernel
theorem dX8_bears_28 : decode cX8_bears 28 = .ok (.iconst 1, 1) := by decide +kernel
theorem dX8_bears_29 : decode cX8_bears 29 = .ok (.iload_n 1, 1) := by decide +kernel
theorem dX8_bears_30 : decode cX8_bears 30 = .ok (.ishl, 1) := by decide +kernel
theorem dX8_bears_31 : decode cX8_bears 31 = .ok (.invokevirtual 185, 3) := by decide +kernel
theorem dX8_bears_34 : decode cX8_bears 34 = .ok (.ireturn, 1) := by decide +kernel
theorem dX8_bitesTillNoneOf_0 : decode cX8_bitesTillNoneOf 0 = .ok (.aload_n 0, 1) := by decide +kernel
theorem dX8_bitesTillNoneOf_1 : decode cX8_bitesTillNoneOf 1 = .ok (.getfield 32, 3) := by decide +kernel
theorem dX8_bitesTillNoneOf_4 : decode cX8_bitesTillNoneOf 4 = .ok (.aload_n 0, 1) := by decide +kernel
theorem dX8_bitesTillNoneOf_5 : decode cX8_bitesTillNoneOf 5 = .ok (.getfield 28, 3) := by decide +kernel
theorem dX8_bitesTillNoneOf_8 : decode cX8_bitesTillNoneOf 8 = .ok (.invokevirtual 188, 3) := by decide +kernel
theorem dX8_bitesTillNoneOf_11 : decode cX8_bitesTillNoneOf 11 = .ok (.iconst 0, 1) := by decide +kernel
theorem dX8_bitesTillNoneOf_12 : decode cX8_bitesTillNoneOf 12 = .ok (.istore_n 2, 1) := by decide +kernel
theorem dX8_bitesTillNoneOf_13 : decode cX8_bitesTillNoneOf 13 = .ok (.iload_n 2, 1) := by decide +kernel
theorem dX8_bitesTillNoneOf_14 : decode cX8_bitesTillNoneOf 14 = .ok (.bipush 60, 2) := by decide +kernel
theorem dX8_bitesTillNoneOf_16 : decode cX8_bitesTillNoneOf 16 = .ok (.if_icmp .gt 30, 3) := by decide +kernel
theorem dX8_bitesTillNoneOf_19 : decode cX8_bitesTillNoneOf 19 = .ok (.aload_n 0, 1) := by decide +kernel
theorem dX8_bitesTillNoneOf_20 : decode cX8_bitesTillNoneOf 20 = .ok (.getfield 32, 3) := by decide +kernel
theorem dX8_bitesTillNoneOf_23 : decode cX8_bitesTillNoneOf 23 = .ok (.getfield 104, 3) := by decide +kernel
theorem dX8_bitesTillNoneOf_26 : decode cX8_bitesTillNoneOf 26 = .ok (.iload_n 1, 1) := by decide +kernel
theorem dX8_bitesTillNoneOf_27 : decode cX8_bitesTillNoneOf 27 = .ok (.iand, 1) := by decide +kernel
theorem dX8_bitesTillNoneOf_28 : decode cX8_bitesTillNoneOf 28 = .ok (.ifCond .ne 5, 3) := by decide +kernel
theorem dX8_bitesTillNoneOf_31 : decode cX8_bitesTillNoneOf 31 = .ok (.iload_n 2, 1) := by decide +kernel
theorem dX8_bitesTillNoneOf_32 : decode cX8_bitesTillNoneOf 32 = .ok (.ireturn, 1) := by decide +kernel
theorem dX8_bitesTillNoneOf_33 : decode cX8_bitesTillNoneOf 33 = .ok (.aload_n 0, 1) := by decide +kernel
theorem dX8_bitesTillNoneOf_34 : decode cX8_bitesTillNoneOf 34 = .ok (.getfield 32, 3) := by decide +kernel
theorem dX8_bitesTillNoneOf_37 : decode cX8_bitesTillNoneOf 37 = .ok (.invokevirtual 164, 3) := by decide +kernel
theorem dX8_bitesTillNoneOf_40 : decode cX8_bitesTillNoneOf 40 = .ok (.iinc 2 1, 3) := by decide +kernel
theorem dX8_bitesTillNoneOf_43 : decode cX8_bitesTillNoneOf 43 = .ok (.goto (-30), 3) := by decide +kernel
theorem dX8_bitesTillNoneOf_46 : decode cX8_bitesTillNoneOf 46 = .ok (.bipush (-9), 2) := by decide +kernel
theorem dX8_bitesTillNoneOf_48 : decode cX8_bitesTillNoneOf 48 = .ok (.ireturn, 1) := by decide +kernel
theorem dX8_best_0 : decode cX8_best 0 = .ok (.iload_n 1, 1) := by decide +kernel
theorem dX8_best_1 : decode cX8_best 1 = .ok (.iconst 1, 1) := by decide +kernel
theorem dX8_best_2 : decode cX8_best 2 = .ok (.if_icmp .lt 8, 3) := by decide +kernel
theorem dX8_best_5 : decode cX8_best 5 = .ok (.iload_n 1, 1) := by decide +kernel
theorem dX8_best_6 : decode cX8_best 6 = .ok (.iconst 5, 1) := by decide +kernel
theorem dX8_best_7 : decode cX8_best 7 = .ok (.if_icmp .le 6, 3) := by decide +kernel
theorem dX8_best_10 : decode cX8_best 10 = .ok (.bipush (-2), 2) := by decide +kernel
theorem dX8_best_12 : decode cX8_best 12 = .ok (.ireturn, 1) := by decide +kernel
theorem dX8_best_13 : decode cX8_best 13 = .ok (.aload_n 0, 1) := by decide +kernel
theorem dX8_best_14 : decode cX8_best 14 = .ok (.getfield 59, 3) := by decide +kernel
theorem dX8_best_17 : decode cX8_best 17 = .ok (.aload_n 0, 1) := by decide +kernel
theorem dX8_best_18 : decode cX8_best 18 = .ok (.getfield 28, 3) := by decide +kernel
theorem dX8_best_21 : decode cX8_best 21 = .ok (.iload_n 1, 1) := by decide +kernel
theorem dX8_best_22 : decode cX8_best 22 = .ok (.bipush 31, 2) := by decide +kernel
theorem dX8_best_24 : decode cX8_best 24 = .ok (.invokevirtual 191, 3) := by decide +kernel
theorem dX8_best_27 : decode cX8_best 27 = .ok (.istore_n 3, 1) := by decide +kernel
theorem dX8_best_28 : decode cX8_best 28 = .ok (.iload_n 2, 1) := by decide +kernel
theorem dX8_best_29 : decode cX8_best 29 = .ok (.ifCond .eq 13, 3) := by decide +kernel
theorem dX8_best_32 : decode cX8_best 32 = .ok (.aload_n 0, 1) := by decide +kernel
theorem dX8_best_33 : decode cX8_best 33 = .ok (.getfield 59, 3) := by decide +kernel
theorem dX8_best_36 : decode cX8_best 36 = .ok (.getfield 195, 3) := by decide +kernel
theorem dX8_best_39 : decode cX8_best 39 = .ok (.goto 4, 3) := by decide +kernel
theorem dX8_best_42 : decode cX8_best 42 = .ok (.iload_n 3, 1) := by decide +kernel
theorem dX8_best_43 : decode cX8_best 43 = .ok (.ireturn, 1) := by decide +kernel
theorem dX8_hot_0 : decode cX8_hot 0 = .ok (.aload_n 0, 1) := by decide +kernel
theorem dX8_hot_1 : decode cX8_hot 1 = .ok (.getfield 19, 3) := by decide +kernel
theorem dX8_hot_4 : decode cX8_hot 4 = .ok (.iload_n 1, 1) := by decide +kernel
theorem dX8_hot_5 : decode cX8_hot 5 = .ok (.invokevirtual 144, 3) := by decide +kernel
theorem dX8_hot_8 : decode cX8_hot 8 = .ok (.ifCond .ne 5, 3) := by decide +kernel
theorem dX8_hot_11 : decode cX8_hot 11 = .ok (.iconst (-1), 1) := by decide +kernel
theorem dX8_hot_12 : decode cX8_hot 12 = .ok (.ireturn, 1) := by decide +kernel
theorem dX8_hot_13 : decode cX8_hot 13 = .ok (.iload_n 2, 1) := by decide +kernel
theorem dX8_hot_14 : decode cX8_hot 14 = .ok (.ifCond .lt 9, 3) := by decide +kernel
theorem dX8_hot_17 : decode cX8_hot 17 = .ok (.iload_n 2, 1) := by decide +kernel
theorem dX8_hot_18 : decode cX8_hot 18 = .ok (.bipush 9, 2) := by decide +kernel
theorem dX8_hot_20 : decode cX8_hot 20 = .ok (.if_icmp .le 6, 3) := by decide +kernel
theorem dX8_hot_23 : decode cX8_hot 23 = .ok (.bipush (-2), 2) := by decide +kernel
theorem dX8_hot_25 : decode cX8_hot 25 = .ok (.ireturn, 1) := by decide +kernel
theorem dX8_hot_26 : decode cX8_hot 26 = .ok (.iconst 0, 1) := by decide +kernel
theorem dX8_hot_27 : decode cX8_hot 27 = .ok (.istore_n 3, 1) := by decide +kernel
theorem dX8_hot_28 : decode cX8_hot 28 = .ok (.iconst 0, 1) := by decide +kernel
theorem dX8_hot_29 : decode cX8_hot 29 = .ok (.istore 4, 2) := by decide +kernel
theorem dX8_hot_31 : decode cX8_hot 31 = .ok (.iload 4, 2) := by decide +kernel
theorem dX8_hot_33 : decode cX8_hot 33 = .ok (.bipush 9, 2) := by decide +kernel
theorem dX8_hot_35 : decode cX8_hot 35 = .ok (.if_icmp .gt 27, 3) := by decide +kernel
theorem dX8_hot_38 : decode cX8_hot 38 = .ok (.aload_n 0, 1) := by decide +kernel
theorem dX8_hot_39 : decode cX8_hot 39 = .ok (.iload 4, 2) := by decide +kernel
theorem dX8_hot_41 : decode cX8_hot 41 = .ok (.iload_n 1, 1) := by decide +kernel
theorem dX8_hot_42 : decode cX8_hot 42 = .ok (.iload_n 2, 1) := by decide +kernel
theorem dX8_hot_43 : decode cX8_hot 43 = .ok (.invokevirtual 198, 3) := by decide +kernel
theorem dX8_hot_46 : decode cX8_hot 46 = .ok (.ifCond .eq 10, 3) := by decide +kernel
theorem dX8_hot_49 : decode cX8_hot 49 = .ok (.iload_n 3, 1) := by decide +kernel
theorem dX8_hot_50 : decode cX8_hot 50 = .ok (.iconst 1, 1) := by decide +kernel
theorem dX8_hot_51 : decode cX8_hot 51 = .ok (.iload 4, 2) := by decide +kernel
theorem dX8_hot_53 : decode cX8_hot 53 = .ok (.ishl, 1) := by decide +kernel
theorem dX8_hot_54 : decode cX8_hot 54 = .ok (.ior, 1) := by decide +kernel
theorem dX8_hot_55 : decode cX8_hot 55 = .ok (.istore_n 3, 1) := by decide +kernel
theorem dX8_hot_56 : decode cX8_hot 56 = .ok (.iinc 4 1, 3) := by decide +kernel
theorem dX8_hot_59 : decode cX8_hot 59 = .ok (.goto (-28), 3) := by decide +kernel
theorem dX8_hot_62 : decode cX8_hot 62 = .ok (.iload_n 3, 1) := by decide +kernel
theorem dX8_hot_63 : decode cX8_hot 63 = .ok (.ireturn, 1) := by decide +kernel
theorem dX8_canBeSaidFrom_0 : decode cX8_canBeSaidFrom 0 = .ok (.aload_n 0, 1) := by decide +kernel
theorem dX8_canBeSaidFrom_1 : decode cX8_canBeSaidFrom 1 = .ok (.getfield 32, 3) := by decide +kernel
theorem dX8_canBeSaidFrom_4 : decode cX8_canBeSaidFrom 4 = .ok (.aload_n 0, 1) := by decide +kernel
theorem dX8_canBeSaidFrom_5 : decode cX8_canBeSaidFrom 5 = .ok (.getfield 28, 3) := by decide +kernel
theorem dX8_canBeSaidFrom_8 : decode cX8_canBeSaidFrom 8 = .ok (.invokevirtual 188, 3) := by decide +kernel
theorem dX8_canBeSaidFrom_11 : decode cX8_canBeSaidFrom 11 = .ok (.aload_n 0, 1) := by decide +kernel
theorem dX8_canBeSaidFrom_12 : decode cX8_canBeSaidFrom 12 = .ok (.getfield 32, 3) := by decide +kernel
theorem dX8_canBeSaidFrom_15 : decode cX8_canBeSaidFrom 15 = .ok (.iload_n 1, 1) := by decide +kernel
theorem dX8_canBeSaidFrom_16 : decode cX8_canBeSaidFrom 16 = .ok (.putfield 98, 3) := by decide +kernel
theorem dX8_canBeSaidFrom_19 : decode cX8_canBeSaidFrom 19 = .ok (.iconst 0, 1) := by decide +kernel
theorem dX8_canBeSaidFrom_20 : decode cX8_canBeSaidFrom 20 = .ok (.istore 4, 2) := by decide +kernel
theorem dX8_canBeSaidFrom_22 : decode cX8_canBeSaidFrom 22 = .ok (.iload 4, 2) := by decide +kernel
theorem dX8_canBeSaidFrom_24 : decode cX8_canBeSaidFrom 24 = .ok (.iload_n 3, 1) := by decide +kernel
theorem dX8_canBeSaidFrom_25 : decode cX8_canBeSaidFrom 25 = .ok (.if_icmp .ge 16, 3) := by decide +kernel
theorem dX8_canBeSaidFrom_28 : decode cX8_canBeSaidFrom 28 = .ok (.aload_n 0, 1) := by decide +kernel
theorem dX8_canBeSaidFrom_29 : decode cX8_canBeSaidFrom 29 = .ok (.getfield 32, 3) := by decide +kernel
theorem dX8_canBeSaidFrom_32 : decode cX8_canBeSaidFrom 32 = .ok (.invokevirtual 164, 3) := by decide +kernel
theorem dX8_canBeSaidFrom_35 : decode cX8_canBeSaidFrom 35 = .ok (.iinc 4 1, 3) := by decide +kernel
theorem dX8_canBeSaidFrom_38 : decode cX8_canBeSaidFrom 38 = .ok (.goto (-16), 3) := by decide +kernel
theorem dX8_canBeSaidFrom_41 : decode cX8_canBeSaidFrom 41 = .ok (.aload_n 0, 1) := by decide +kernel
theorem dX8_canBeSaidFrom_42 : decode cX8_canBeSaidFrom 42 = .ok (.getfield 32, 3) := by decide +kernel
theorem dX8_canBeSaidFrom_45 : decode cX8_canBeSaidFrom 45 = .ok (.iload_n 2, 1) := by decide +kernel
theorem dX8_canBeSaidFrom_46 : decode cX8_canBeSaidFrom 46 = .ok (.invokevirtual 167, 3) := by decide +kernel
theorem dX8_canBeSaidFrom_49 : decode cX8_canBeSaidFrom 49 = .ok (.ireturn, 1) := by decide +kernel
theorem dX8_spiceFor_0 : decode cX8_spiceFor 0 = .ok (.aload_n 0, 1) := by decide +kernel
theorem dX8_spiceFor_1 : decode cX8_spiceFor 1 = .ok (.getfield 19, 3) := by decide +kernel
theorem dX8_spiceFor_4 : decode cX8_spiceFor 4 = .ok (.iload_n 1, 1) := by decide +kernel
theorem dX8_spiceFor_5 : decode cX8_spiceFor 5 = .ok (.invokevirtual 144, 3) := by decide +kernel
theorem dX8_spiceFor_8 : decode cX8_spiceFor 8 = .ok (.ifCond .ne 5, 3) := by decide +kernel
theorem dX8_spiceFor_11 : decode cX8_spiceFor 11 = .ok (.iconst (-1), 1) := by decide +kernel
theorem dX8_spiceFor_12 : decode cX8_spiceFor 12 = .ok (.ireturn, 1) := by decide +kernel
theorem dX8_spiceFor_13 : decode cX8_spiceFor 13 = .ok (.aload_n 0, 1) := by decide +kernel
theorem dX8_spiceFor_14 : decode cX8_spiceFor 14 = .ok (.getfield 28, 3) := by decide +kernel
theorem dX8_spiceFor_17 : decode cX8_spiceFor 17 = .ok (.iload_n 1, 1) := by decide +kernel
theorem dX8_spiceFor_18 : decode cX8_spiceFor 18 = .ok (.invokevirtual 202, 3) := by decide +kernel
theorem dX8_spiceFor_21 : decode cX8_spiceFor 21 = .ok (.ifCond .eq 6, 3) := by decide +kernel
theorem dX8_spiceFor_24 : decode cX8_spiceFor 24 = .ok (.bipush (-3), 2) := by decide +kernel
theorem dX8_spiceFor_26 : decode cX8_spiceFor 26 = .ok (.ireturn, 1) := by decide +kernel
theorem dX8_spiceFor_27 : decode cX8_spiceFor 27 = .ok (.aload_n 0, 1) := by decide +kernel
theorem dX8_spiceFor_28 : decode cX8_spiceFor 28 = .ok (.getfield 32, 3) := by decide +kernel
theorem dX8_spiceFor_31 : decode cX8_spiceFor 31 = .ok (.aload_n 0, 1) := by decide +kernel
theorem dX8_spiceFor_32 : decode cX8_spiceFor 32 = .ok (.getfield 28, 3) := by decide +kernel
theorem dX8_spiceFor_35 : decode cX8_spiceFor 35 = .ok (.invokevirtual 188, 3) := by decide +kernel
theorem dX8_spiceFor_38 : decode cX8_spiceFor 38 = .ok (.iconst 0, 1) := by decide +kernel
theorem dX8_spiceFor_39 : decode cX8_spiceFor 39 = .ok (.istore_n 2, 1) := by decide +kernel
theorem dX8_spiceFor_40 : decode cX8_spiceFor 40 = .ok (.iload_n 2, 1) := by decide +kernel
theorem dX8_spiceFor_41 : decode cX8_spiceFor 41 = .ok (.aload_n 0, 1) := by decide +kernel
theorem dX8_spiceFor_42 : decode cX8_spiceFor 42 = .ok (.getfield 28, 3) := by decide +kernel
theorem dX8_spiceFor_45 : decode cX8_spiceFor 45 = .ok (.getfield 101, 3) := by decide +kernel
theorem dX8_spiceFor_48 : decode cX8_spiceFor 48 = .ok (.if_icmp .gt 29, 3) := by decide +kernel
theorem dX8_spiceFor_51 : decode cX8_spiceFor 51 = .ok (.aload_n 0, 1) := by decide +kernel
theorem dX8_spiceFor_52 : decode cX8_spiceFor 52 = .ok (.getfield 32, 3) := by decide +kernel
theorem dX8_spiceFor_55 : decode cX8_spiceFor 55 = .ok (.iload_n 1, 1) := by decide +kernel
theorem dX8_spiceFor_56 : decode cX8_spiceFor 56 = .ok (.invokevirtual 167, 3) := by decide +kernel
theorem dX8_spiceFor_59 : decode cX8_spiceFor 59 = .ok (.ifCond .eq 5, 3) := by decide +kernel
theorem dX8_spiceFor_62 : decode cX8_spiceFor 62 = .ok (.iload_n 2, 1) := by decide +kernel
theorem dX8_spiceFor_63 : decode cX8_spiceFor 63 = .ok (.ireturn, 1) := by decide +kernel
theorem dX8_spiceFor_64 : decode cX8_spiceFor 64 = .ok (.aload_n 0, 1) := by decide +kernel
theorem dX8_spiceFor_65 : decode cX8_spiceFor 65 = .ok (.getfield 32, 3) := by decide +kernel
theorem dX8_spiceFor_68 : decode cX8_spiceFor 68 = .ok (.invokevirtual 173, 3) := by decide +kernel
theorem dX8_spiceFor_71 : decode cX8_spiceFor 71 = .ok (.iinc 2 1, 3) := by decide +kernel
theorem dX8_spiceFor_74 : decode cX8_spiceFor 74 = .ok (.goto (-34), 3) := by decide +kernel
theorem dX8_spiceFor_77 : decode cX8_spiceFor 77 = .ok (.bipush (-9), 2) := by decide +kernel
theorem dX8_spiceFor_79 : decode cX8_spiceFor 79 = .ok (.ireturn, 1) := by decide +kernel
theorem dX8_judge_0 : decode cX8_judge 0 = .ok (.iload_n 1, 1) := by decide +kernel
theorem dX8_judge_1 : decode cX8_judge 1 = .ok (.iconst 1, 1) := by decide +kernel
theorem dX8_judge_2 : decode cX8_judge 2 = .ok (.if_icmp .lt 17, 3) := by decide +kernel
theorem dX8_judge_5 : decode cX8_judge 5 = .ok (.iload_n 1, 1) := by decide +kernel
theorem dX8_judge_6 : decode cX8_judge 6 = .ok (.bipush 6, 2) := by decide +kernel
theorem dX8_judge_8 : decode cX8_judge 8 = .ok (.if_icmp .gt 11, 3) := by decide +kernel
theorem dX8_judge_11 : decode cX8_judge 11 = .ok (.iload_n 1, 1) := by decide +kernel
theorem dX8_judge_12 : decode cX8_judge 12 = .ok (.iload_n 2, 1) := by decide +kernel
theorem dX8_judge_13 : decode cX8_judge 13 = .ok (.invokestatic 205, 3) := by decide +kernel
theorem dX8_judge_16 : decode cX8_judge 16 = .ok (.ifCond .ne 6, 3) := by decide +kernel
theorem dX8_judge_19 : decode cX8_judge 19 = .ok (.bipush (-2), 2) := by decide +kernel
theorem dX8_judge_21 : decode cX8_judge 21 = .ok (.ireturn, 1) := by decide +kernel
theorem dX8_judge_22 : decode cX8_judge 22 = .ok (.aload_n 0, 1) := by decide +kernel
theorem dX8_judge_23 : decode cX8_judge 23 = .ok (.getfield 32, 3) := by decide +kernel
theorem dX8_judge_26 : decode cX8_judge 26 = .ok (.aload_n 0, 1) := by decide +kernel
theorem dX8_judge_27 : decode cX8_judge 27 = .ok (.getfield 28, 3) := by decide +kernel
theorem dX8_judge_30 : decode cX8_judge 30 = .ok (.invokevirtual 188, 3) := by decide +kernel
theorem dX8_judge_33 : decode cX8_judge 33 = .ok (.iload_n 1, 1) := by decide +kernel
theorem dX8_judge_34 : decode cX8_judge 34 = .ok (.iconst 1, 1) := by decide +kernel
theorem dX8_judge_35 : decode cX8_judge 35 = .ok (.isub, 1) := by decide +kernel
theorem dX8_judge_36 : decode cX8_judge 36 = .ok (.invokestatic 209, 3) := by decide +kernel
theorem dX8_judge_39 : decode cX8_judge 39 = .ok (.istore_n 3, 1) := by decide +kernel
theorem dX8_judge_40 : decode cX8_judge 40 = .ok (.iconst 0, 1) := by decide +kernel
theorem dX8_judge_41 : decode cX8_judge 41 = .ok (.istore 4, 2) := by decide +kernel
theorem dX8_judge_43 : decode cX8_judge 43 = .ok (.iload 4, 2) := by decide +kernel
theorem dX8_judge_45 : decode cX8_judge 45 = .ok (.iload_n 1, 1) := by decide +kernel
theorem dX8_judge_46 : decode cX8_judge 46 = .ok (.if_icmp .ge 37, 3) := by decide +kernel
theorem dX8_judge_49 : decode cX8_judge 49 = .ok (.iload_n 3, 1) := by decide +kernel
theorem dX8_judge_50 : decode cX8_judge 50 = .ok (.ifCond .le 33, 3) := by decide +kernel
theorem dX8_judge_53 : decode cX8_judge 53 = .ok (.aload_n 0, 1) := by decide +kernel
theorem dX8_judge_54 : decode cX8_judge 54 = .ok (.getfield 32, 3) := by decide +kernel
theorem dX8_judge_57 : decode cX8_judge 57 = .ok (.iload_n 2, 1) := by decide +kernel
theorem dX8_judge_58 : decode cX8_judge 58 = .ok (.iload_n 3, 1) := by decide +kernel
theorem dX8_judge_59 : decode cX8_judge 59 = .ok (.idiv, 1) := by decide +kernel
theorem dX8_judge_60 : decode cX8_judge 60 = .ok (.bipush 10, 2) := by decide +kernel
theorem dX8_judge_62 : decode cX8_judge 62 = .ok (.irem, 1) := by decide +kernel
theorem dX8_judge_63 : decode cX8_judge 63 = .ok (.invokevirtual 212, 3) := by decide +kernel
theorem dX8_judge_66 : decode cX8_judge 66 = .ok (.ifCond .ne 6, 3) := by decide +kernel
theorem dX8_judge_69 : decode cX8_judge 69 = .ok (.iload 4, 2) := by decide +kernel
theorem dX8_judge_71 : decode cX8_judge 71 = .ok (.ireturn, 1) := by decide +kernel
theorem dX8_judge_72 : decode cX8_judge 72 = .ok (.iload_n 3, 1) := by decide +kernel
theorem dX8_judge_73 : decode cX8_judge 73 = .ok (.bipush 10, 2) := by decide +kernel
theorem dX8_judge_75 : decode cX8_judge 75 = .ok (.idiv, 1) := by decide +kernel
theorem dX8_judge_76 : decode cX8_judge 76 = .ok (.istore_n 3, 1) := by decide +kernel
theorem dX8_judge_77 : decode cX8_judge 77 = .ok (.iinc 4 1, 3) := by decide +kernel
theorem dX8_judge_80 : decode cX8_judge 80 = .ok (.goto (-37), 3) := by decide +kernel
theorem dX8_judge_83 : decode cX8_judge 83 = .ok (.bipush (-9), 2) := by decide +kernel
theorem dX8_judge_85 : decode cX8_judge 85 = .ok (.ireturn, 1) := by decide +kernel
theorem dX8_isRowOfFigures_0 : decode cX8_isRowOfFigures 0 = .ok (.iload_n 1, 1) := by decide +kernel
theorem dX8_isRowOfFigures_1 : decode cX8_isRowOfFigures 1 = .ok (.ifCond .lt 11, 3) := by decide +kernel
theorem dX8_isRowOfFigures_4 : decode cX8_isRowOfFigures 4 = .ok (.iload_n 1, 1) := by decide +kernel
theorem dX8_isRowOfFigures_5 : decode cX8_isRowOfFigures 5 = .ok (.iload_n 0, 1) := by decide +kernel
theorem dX8_isRowOfFigures_6 : decode cX8_isRowOfFigures 6 = .ok (.invokestatic 209, 3) := by decide +kernel
theorem dX8_isRowOfFigures_9 : decode cX8_isRowOfFigures 9 = .ok (.if_icmp .lt 5, 3) := by decide +kernel
theorem dX8_isRowOfFigures_12 : decode cX8_isRowOfFigures 12 = .ok (.iconst 0, 1) := by decide +kernel
theorem dX8_isRowOfFigures_13 : decode cX8_isRowOfFigures 13 = .ok (.ireturn, 1) := by decide +kernel
theorem dX8_isRowOfFigures_14 : decode cX8_isRowOfFigures 14 = .ok (.iload_n 1, 1) := by decide +kernel
theorem dX8_isRowOfFigures_15 : decode cX8_isRowOfFigures 15 = .ok (.istore_n 2, 1) := by decide +kernel
theorem dX8_isRowOfFigures_16 : decode cX8_isRowOfFigures 16 = .ok (.iconst 0, 1) := by decide +kernel
theorem dX8_isRowOfFigures_17 : decode cX8_isRowOfFigures 17 = .ok (.istore_n 3, 1) := by decide +kernel
theorem dX8_isRowOfFigures_18 : decode cX8_isRowOfFigures 18 = .ok (.iload_n 3, 1) := by decide +kernel
theorem dX8_isRowOfFigures_19 : decode cX8_isRowOfFigures 19 = .ok (.iload_n 0, 1) := by decide +kernel
theorem dX8_isRowOfFigures_20 : decode cX8_isRowOfFigures 20 = .ok (.if_icmp .ge 25, 3) := by decide +kernel
theorem dX8_isRowOfFigures_23 : decode cX8_isRowOfFigures 23 = .ok (.iload_n 2, 1) := by decide +kernel
theorem dX8_isRowOfFigures_24 : decode cX8_isRowOfFigures 24 = .ok (.bipush 10, 2) := by decide +kernel
theorem dX8_isRowOfFigures_26 : decode cX8_isRowOfFigures 26 = .ok (.irem, 1) := by decide +kernel
theorem dX8_isRowOfFigures_27 : decode cX8_isRowOfFigures 27 = .ok (.bipush 7, 2) := by decide +kernel
theorem dX8_isRowOfFigures_29 : decode cX8_isRowOfFigures 29 = .ok (.if_icmp .le 5, 3) := by decide +kernel
theorem dX8_isRowOfFigures_32 : decode cX8_isRowOfFigures 32 = .ok (.iconst 0, 1) := by decide +kernel
theorem dX8_isRowOfFigures_33 : decode cX8_isRowOfFigures 33 = .ok (.ireturn, 1) := by decide +kernel
theorem dX8_isRowOfFigures_34 : decode cX8_isRowOfFigures 34 = .ok (.iload_n 2, 1) := by decide +kernel
theorem dX8_isRowOfFigures_35 : decode cX8_isRowOfFigures 35 = .ok (.bipush 10, 2) := by decide +kernel
theorem dX8_isRowOfFigures_37 : decode cX8_isRowOfFigures 37 = .ok (.idiv, 1) := by decide +kernel
theorem dX8_isRowOfFigures_38 : decode cX8_isRowOfFigures 38 = .ok (.istore_n 2, 1) := by decide +kernel
theorem dX8_isRowOfFigures_39 : decode cX8_isRowOfFigures 39 = .ok (.iinc 3 1, 3) := by decide +kernel
theorem dX8_isRowOfFigures_42 : decode cX8_isRowOfFigures 42 = .ok (.goto (-24), 3) := by decide +kernel
theorem dX8_isRowOfFigures_45 : decode cX8_isRowOfFigures 45 = .ok (.iconst 1, 1) := by decide +kernel
theorem dX8_isRowOfFigures_46 : decode cX8_isRowOfFigures 46 = .ok (.ireturn, 1) := by decide +kernel
theorem dX8_powerOfTen_0 : decode cX8_powerOfTen 0 = .ok (.iconst 1, 1) := by decide +kernel
theorem dX8_powerOfTen_1 : decode cX8_powerOfTen 1 = .ok (.istore_n 1, 1) := by decide +kernel
theorem dX8_powerOfTen_2 : decode cX8_powerOfTen 2 = .ok (.iconst 0, 1) := by decide +kernel
theorem dX8_powerOfTen_3 : decode cX8_powerOfTen 3 = .ok (.istore_n 2, 1) := by decide +kernel
theorem dX8_powerOfTen_4 : decode cX8_powerOfTen 4 = .ok (.iload_n 2, 1) := by decide +kernel
theorem dX8_powerOfTen_5 : decode cX8_powerOfTen 5 = .ok (.iload_n 0, 1) := by decide +kernel
theorem dX8_powerOfTen_6 : decode cX8_powerOfTen 6 = .ok (.if_icmp .ge 14, 3) := by decide +kernel
theorem dX8_powerOfTen_9 : decode cX8_powerOfTen 9 = .ok (.iload_n 1, 1) := by decide +kernel
theorem dX8_powerOfTen_10 : decode cX8_powerOfTen 10 = .ok (.bipush 10, 2) := by decide +kernel
theorem dX8_powerOfTen_12 : decode cX8_powerOfTen 12 = .ok (.imul, 1) := by decide +kernel
theorem dX8_powerOfTen_13 : decode cX8_powerOfTen 13 = .ok (.istore_n 1, 1) := by decide +kernel
theorem dX8_powerOfTen_14 : decode cX8_powerOfTen 14 = .ok (.iinc 2 1, 3) := by decide +kernel
theorem dX8_powerOfTen_17 : decode cX8_powerOfTen 17 = .ok (.goto (-13), 3) := by decide +kernel
theorem dX8_powerOfTen_20 : decode cX8_powerOfTen 20 = .ok (.iload_n 1, 1) := by decide +kernel
theorem dX8_powerOfTen_21 : decode cX8_powerOfTen 21 = .ok (.ireturn, 1) := by decide +kernel
theorem dX8_share_0 : decode cX8_share 0 = .ok (.aload_n 0, 1) := by decide +kernel
theorem dX8_share_1 : decode cX8_share 1 = .ok (.getfield 19, 3) := by decide +kernel
theorem dX8_share_4 : decode cX8_share 4 = .ok (.iload_n 1, 1) := by decide +kernel
theorem dX8_share_5 : decode cX8_share 5 = .ok (.invokevirtual 120, 3) := by decide +kernel
theorem dX8_share_8 : decode cX8_share 8 = .ok (.ifCond .ne 5, 3) := by decide +kernel
theorem dX8_share_11 : decode cX8_share 11 = .ok (.iconst (-1), 1) := by decide +kernel
theorem dX8_share_12 : decode cX8_share 12 = .ok (.ireturn, 1) := by decide +kernel
theorem dX8_share_13 : decode cX8_share 13 = .ok (.iconst 1, 1) := by decide +kernel
theorem dX8_share_14 : decode cX8_share 14 = .ok (.iload_n 1, 1) := by decide +kernel
theorem dX8_share_15 : decode cX8_share 15 = .ok (.ishl, 1) := by decide +kernel
theorem dX8_share_16 : decode cX8_share 16 = .ok (.istore_n 3, 1) := by decide +kernel
theorem dX8_share_17 : decode cX8_share 17 = .ok (.iconst 0, 1) := by decide +kernel
theorem dX8_share_18 : decode cX8_share 18 = .ok (.istore 4, 2) := by decide +kernel
theorem dX8_share_20 : decode cX8_share 20 = .ok (.iconst 0, 1) := by decide +kernel
theorem dX8_share_21 : decode cX8_share 21 = .ok (.istore 5, 2) := by decide +kernel
theorem dX8_share_23 : decode cX8_share 23 = .ok (.iload 5, 2) := by decide +kernel
theorem dX8_share_25 : decode cX8_share 25 = .ok (.iconst 1, 1) := by decide +kernel
theorem dX8_share_26 : decode cX8_share 26 = .ok (.aload_n 0, 1) := by decide +kernel
theorem dX8_share_27 : decode cX8_share 27 = .ok (.getfield 19, 3) := by decide +kernel
theorem dX8_share_30 : decode cX8_share 30 = .ok (.getfield 92, 3) := by decide +kernel
theorem dX8_share_33 : decode cX8_share 33 = .ok (.ishl, 1) := by decide +kernel
theorem dX8_share_34 : decode cX8_share 34 = .ok (.if_icmp .ge 81, 3) := by decide +kernel
theorem dX8_share_37 : decode cX8_share 37 = .ok (.iload 5, 2) := by decide +kernel
theorem dX8_share_39 : decode cX8_share 39 = .ok (.iload_n 3, 1) := by decide +kernel
theorem dX8_share_40 : decode cX8_share 40 = .ok (.iand, 1) := by decide +kernel
theorem dX8_share_41 : decode cX8_share 41 = .ok (.ifCond .ne 68, 3) := by decide +kernel
theorem dX8_share_44 : decode cX8_share 44 = .ok (.aload_n 0, 1) := by decide +kernel
theorem dX8_share_45 : decode cX8_share 45 = .ok (.getfield 59, 3) := by decide +kernel
theorem dX8_share_48 : decode cX8_share 48 = .ok (.aload_n 0, 1) := by decide +kernel
theorem dX8_share_49 : decode cX8_share 49 = .ok (.getfield 28, 3) := by decide +kernel
theorem dX8_share_52 : decode cX8_share 52 = .ok (.iconst 2, 1) := by decide +kernel
theorem dX8_share_53 : decode cX8_share 53 = .ok (.aload_n 0, 1) := by decide +kernel
theorem dX8_share_54 : decode cX8_share 54 = .ok (.getfield 19, 3) := by decide +kernel
theorem dX8_share_57 : decode cX8_share 57 = .ok (.iload 5, 2) := by decide +kernel
theorem dX8_share_59 : decode cX8_share 59 = .ok (.invokevirtual 215, 3) := by decide +kernel
theorem dX8_share_62 : decode cX8_share 62 = .ok (.invokevirtual 191, 3) := by decide +kernel
theorem dX8_share_65 : decode cX8_share 65 = .ok (.istore 6, 2) := by decide +kernel
theorem dX8_share_67 : decode cX8_share 67 = .ok (.aload_n 0, 1) := by decide +kernel
theorem dX8_share_68 : decode cX8_share 68 = .ok (.getfield 59, 3) := by decide +kernel
theorem dX8_share_71 : decode cX8_share 71 = .ok (.aload_n 0, 1) := by decide +kernel
theorem dX8_share_72 : decode cX8_share 72 = .ok (.getfield 28, 3) := by decide +kernel
theorem dX8_share_75 : decode cX8_share 75 = .ok (.iconst 2, 1) := by decide +kernel
theorem dX8_share_76 : decode cX8_share 76 = .ok (.aload_n 0, 1) := by decide +kernel
theorem dX8_share_77 : decode cX8_share 77 = .ok (.getfield 19, 3) := by decide +kernel
theorem dX8_share_80 : decode cX8_share 80 = .ok (.iload 5, 2) := by decide +kernel
theorem dX8_share_82 : decode cX8_share 82 = .ok (.iload_n 3, 1) := by decide +kernel
theorem dX8_share_83 : decode cX8_share 83 = .ok (.ior, 1) := by decide +kernel
theorem dX8_share_84 : decode cX8_share 84 = .ok (.invokevirtual 215, 3) := by decide +kernel
theorem dX8_share_87 : decode cX8_share 87 = .ok (.invokevirtual 191, 3) := by decide +kernel
theorem dX8_share_90 : decode cX8_share 90 = .ok (.istore 7, 2) := by decide +kernel
theorem dX8_share_92 : decode cX8_share 92 = .ok (.iload 4, 2) := by decide +kernel
theorem dX8_share_94 : decode cX8_share 94 = .ok (.aload_n 0, 1) := by decide +kernel
theorem dX8_share_95 : decode cX8_share 95 = .ok (.iload 5, 2) := by decide +kernel
theorem dX8_share_97 : decode cX8_share 97 = .ok (.invokevirtual 218, 3) := by decide +kernel
theorem dX8_share_100 : decode cX8_share 100 = .ok (.iload 7, 2) := by decide +kernel
theorem dX8_share_102 : decode cX8_share 102 = .ok (.iload 6, 2) := by decide +kernel
theorem dX8_share_104 : decode cX8_share 104 = .ok (.isub, 1) := by decide +kernel
theorem dX8_share_105 : decode cX8_share 105 = .ok (.imul, 1) := by decide +kernel
theorem dX8_share_106 : decode cX8_share 106 = .ok (.iadd, 1) := by decide +kernel
theorem dX8_share_107 : decode cX8_share 107 = .ok (.istore 4, 2) := by decide +kernel
theorem dX8_share_109 : decode cX8_share 109 = .ok (.iinc 5 1, 3) := by decide +kernel
theorem dX8_share_112 : decode cX8_share 112 = .ok (.goto (-89), 3) := by decide +kernel
theorem dX8_share_115 : decode cX8_share 115 = .ok (.iload 4, 2) := by decide +kernel
theorem dX8_share_117 : decode cX8_share 117 = .ok (.aload_n 0, 1) := by decide +kernel
theorem dX8_share_118 : decode cX8_share 118 = .ok (.getfield 19, 3) := by decide +kernel
theorem dX8_share_121 : decode cX8_share 121 = .ok (.getfield 92, 3) := by decide +kernel
theorem dX8_share_124 : decode cX8_share 124 = .ok (.invokestatic 221, 3) := by decide +kernel
theorem dX8_share_127 : decode cX8_share 127 = .ok (.iload_n 2, 1) := by decide +kernel
theorem dX8_share_128 : decode cX8_share 128 = .ok (.invokestatic 224, 3) := by decide +kernel
theorem dX8_share_131 : decode cX8_share 131 = .ok (.ireturn, 1) := by decide +kernel
theorem dX8_ordersWith_0 : decode cX8_ordersWith 0 = .ok (.iload_n 1, 1) := by decide +kernel
theorem dX8_ordersWith_1 : decode cX8_ordersWith 1 = .ok (.invokestatic 228, 3) := by decide +kernel
theorem dX8_ordersWith_4 : decode cX8_ordersWith 4 = .ok (.istore_n 2, 1) := by decide +kernel
theorem dX8_ordersWith_5 : decode cX8_ordersWith 5 = .ok (.iload_n 2, 1) := by decide +kernel
theorem dX8_ordersWith_6 : decode cX8_ordersWith 6 = .ok (.invokestatic 221, 3) := by decide +kernel
theorem dX8_ordersWith_9 : decode cX8_ordersWith 9 = .ok (.aload_n 0, 1) := by decide +kernel
theorem dX8_ordersWith_10 : decode cX8_ordersWith 10 = .ok (.getfield 19, 3) := by decide +kernel
theorem dX8_ordersWith_13 : decode cX8_ordersWith 13 = .ok (.getfield 92, 3) := by decide +kernel
theorem dX8_ordersWith_16 : decode cX8_ordersWith 16 = .ok (.iload_n 2, 1) := by decide +kernel
theorem dX8_ordersWith_17 : decode cX8_ordersWith 17 = .ok (.isub, 1) := by decide +kernel
theorem dX8_ordersWith_18 : decode cX8_ordersWith 18 = .ok (.iconst 1, 1) := by decide +kernel
theorem dX8_ordersWith_19 : decode cX8_ordersWith 19 = .ok (.isub, 1) := by decide +kernel
theorem dX8_ordersWith_20 : decode cX8_ordersWith 20 = .ok (.invokestatic 221, 3) := by decide +kernel
theorem dX8_ordersWith_23 : decode cX8_ordersWith 23 = .ok (.imul, 1) := by decide +kernel
theorem dX8_ordersWith_24 : decode cX8_ordersWith 24 = .ok (.ireturn, 1) := by decide +kernel
theorem dX8_factorial_0 : decode cX8_factorial 0 = .ok (.iconst 1, 1) := by decide +kernel
theorem dX8_factorial_1 : decode cX8_factorial 1 = .ok (.istore_n 1, 1) := by decide +kernel
theorem dX8_factorial_2 : decode cX8_factorial 2 = .ok (.iconst 2, 1) := by decide +kernel
theorem dX8_factorial_3 : decode cX8_factorial 3 = .ok (.istore_n 2, 1) := by decide +kernel
theorem dX8_factorial_4 : decode cX8_factorial 4 = .ok (.iload_n 2, 1) := by decide +kernel
theorem dX8_factorial_5 : decode cX8_factorial 5 = .ok (.iload_n 0, 1) := by decide +kernel
theorem dX8_factorial_6 : decode cX8_factorial 6 = .ok (.if_icmp .gt 13, 3) := by decide +kernel
theorem dX8_factorial_9 : decode cX8_factorial 9 = .ok (.iload_n 1, 1) := by decide +kernel
theorem dX8_factorial_10 : decode cX8_factorial 10 = .ok (.iload_n 2, 1) := by decide +kernel
theorem dX8_factorial_11 : decode cX8_factorial 11 = .ok (.imul, 1) := by decide +kernel
theorem dX8_factorial_12 : decode cX8_factorial 12 = .ok (.istore_n 1, 1) := by decide +kernel
theorem dX8_factorial_13 : decode cX8_factorial 13 = .ok (.iinc 2 1, 3) := by decide +kernel
theorem dX8_factorial_16 : decode cX8_factorial 16 = .ok (.goto (-12), 3) := by decide +kernel
theorem dX8_factorial_19 : decode cX8_factorial 19 = .ok (.iload_n 1, 1) := by decide +kernel
theorem dX8_factorial_20 : decode cX8_factorial 20 = .ok (.ireturn, 1) := by decide +kernel
theorem dX8_fraction_0 : decode cX8_fraction 0 = .ok (.iload_n 0, 1) := by decide +kernel
theorem dX8_fraction_1 : decode cX8_fraction 1 = .ok (.iload_n 1, 1) := by decide +kernel
theorem dX8_fraction_2 : decode cX8_fraction 2 = .ok (.invokestatic 233, 3) := by decide +kernel
theorem dX8_fraction_5 : decode cX8_fraction 5 = .ok (.istore_n 3, 1) := by decide +kernel
theorem dX8_fraction_6 : decode cX8_fraction 6 = .ok (.iload_n 2, 1) := by decide +kernel
theorem dX8_fraction_7 : decode cX8_fraction 7 = .ok (.ifCond .eq 9, 3) := by decide +kernel
theorem dX8_fraction_10 : decode cX8_fraction 10 = .ok (.iload_n 0, 1) := by decide +kernel
theorem dX8_fraction_11 : decode cX8_fraction 11 = .ok (.iload_n 3, 1) := by decide +kernel
theorem dX8_fraction_12 : decode cX8_fraction 12 = .ok (.idiv, 1) := by decide +kernel
theorem dX8_fraction_13 : decode cX8_fraction 13 = .ok (.goto 6, 3) := by decide +kernel
theorem dX8_fraction_16 : decode cX8_fraction 16 = .ok (.iload_n 1, 1) := by decide +kernel
theorem dX8_fraction_17 : decode cX8_fraction 17 = .ok (.iload_n 3, 1) := by decide +kernel
theorem dX8_fraction_18 : decode cX8_fraction 18 = .ok (.idiv, 1) := by decide +kernel
theorem dX8_fraction_19 : decode cX8_fraction 19 = .ok (.ireturn, 1) := by decide +kernel
theorem dX8_commonDivisor_0 : decode cX8_commonDivisor 0 = .ok (.iload_n 0, 1) := by decide +kernel
theorem dX8_commonDivisor_1 : decode cX8_commonDivisor 1 = .ok (.istore_n 2, 1) := by decide +kernel
theorem dX8_commonDivisor_2 : decode cX8_commonDivisor 2 = .ok (.iload_n 1, 1) := by decide +kernel
theorem dX8_commonDivisor_3 : decode cX8_commonDivisor 3 = .ok (.istore_n 3, 1) := by decide +kernel
theorem dX8_commonDivisor_4 : decode cX8_commonDivisor 4 = .ok (.iconst 0, 1) := by decide +kernel
theorem dX8_commonDivisor_5 : decode cX8_commonDivisor 5 = .ok (.istore 4, 2) := by decide +kernel
theorem dX8_commonDivisor_7 : decode cX8_commonDivisor 7 = .ok (.iload 4, 2) := by decide +kernel
theorem dX8_commonDivisor_9 : decode cX8_commonDivisor 9 = .ok (.bipush 64, 2) := by decide +kernel
theorem dX8_commonDivisor_11 : decode cX8_commonDivisor 11 = .ok (.if_icmp .ge 23, 3) := by decide +kernel
theorem dX8_commonDivisor_14 : decode cX8_commonDivisor 14 = .ok (.iload_n 3, 1) := by decide +kernel
theorem dX8_commonDivisor_15 : decode cX8_commonDivisor 15 = .ok (.ifCond .eq 19, 3) := by decide +kernel
theorem dX8_commonDivisor_18 : decode cX8_commonDivisor 18 = .ok (.iload_n 2, 1) := by decide +kernel
theorem dX8_commonDivisor_19 : decode cX8_commonDivisor 19 = .ok (.iload_n 3, 1) := by decide +kernel
theorem dX8_commonDivisor_20 : decode cX8_commonDivisor 20 = .ok (.irem, 1) := by decide +kernel
theorem dX8_commonDivisor_21 : decode cX8_commonDivisor 21 = .ok (.istore 5, 2) := by decide +kernel
theorem dX8_commonDivisor_23 : decode cX8_commonDivisor 23 = .ok (.iload_n 3, 1) := by decide +kernel
theorem dX8_commonDivisor_24 : decode cX8_commonDivisor 24 = .ok (.istore_n 2, 1) := by decide +kernel
theorem dX8_commonDivisor_25 : decode cX8_commonDivisor 25 = .ok (.iload 5, 2) := by decide +kernel
theorem dX8_commonDivisor_27 : decode cX8_commonDivisor 27 = .ok (.istore_n 3, 1) := by decide +kernel
theorem dX8_commonDivisor_28 : decode cX8_commonDivisor 28 = .ok (.iinc 4 1, 3) := by decide +kernel
theorem dX8_commonDivisor_31 : decode cX8_commonDivisor 31 = .ok (.goto (-24), 3) := by decide +kernel
theorem dX8_commonDivisor_34 : decode cX8_commonDivisor 34 = .ok (.iconst 1, 1) := by decide +kernel
theorem dX8_commonDivisor_35 : decode cX8_commonDivisor 35 = .ok (.iload_n 2, 1) := by decide +kernel
theorem dX8_commonDivisor_36 : decode cX8_commonDivisor 36 = .ok (.invokestatic 236, 3) := by decide +kernel
theorem dX8_commonDivisor_39 : decode cX8_commonDivisor 39 = .ok (.ireturn, 1) := by decide +kernel
theorem dX8_see_0 : decode cX8_see 0 = .ok (.iload_n 1, 1) := by decide +kernel
theorem dX8_see_1 : decode cX8_see 1 = .ok (.invokestatic 241, 3) := by decide +kernel
theorem dX8_see_4 : decode cX8_see 4 = .ok (.ifCond .eq 23, 3) := by decide +kernel
theorem dX8_see_7 : decode cX8_see 7 = .ok (.iload_n 2, 1) := by decide +kernel
theorem dX8_see_8 : decode cX8_see 8 = .ok (.ifCond .lt 19, 3) := by decide +kernel
theorem dX8_see_11 : decode cX8_see 11 = .ok (.iload_n 2, 1) := by decide +kernel
theorem dX8_see_12 : decode cX8_see 12 = .ok (.bipush 9, 2) := by decide +kernel
theorem dX8_see_14 : decode cX8_see 14 = .ok (.if_icmp .gt 13, 3) := by decide +kernel
theorem dX8_see_17 : decode cX8_see 17 = .ok (.iload_n 3, 1) := by decide +kernel
theorem dX8_see_18 : decode cX8_see 18 = .ok (.ifCond .lt 9, 3) := by decide +kernel
theorem dX8_see_21 : decode cX8_see 21 = .ok (.iload_n 3, 1) := by decide +kernel
theorem dX8_see_22 : decode cX8_see 22 = .ok (.bipush 10, 2) := by decide +kernel
theorem dX8_see_24 : decode cX8_see 24 = .ok (.if_icmp .le 6, 3) := by decide +kernel
theorem dX8_see_27 : decode cX8_see 27 = .ok (.bipush (-2), 2) := by decide +kernel
theorem dX8_see_29 : decode cX8_see 29 = .ok (.ireturn, 1) := by decide +kernel
theorem dX8_see_30 : decode cX8_see 30 = .ok (.aload_n 0, 1) := by decide +kernel
theorem dX8_see_31 : decode cX8_see 31 = .ok (.getfield 52, 3) := by decide +kernel
theorem dX8_see_34 : decode cX8_see 34 = .ok (.getfield 119, 3) := by decide +kernel
theorem dX8_see_37 : decode cX8_see 37 = .ok (.bipush 6, 2) := by decide +kernel
theorem dX8_see_39 : decode cX8_see 39 = .ok (.if_icmp .lt 6, 3) := by decide +kernel
theorem dX8_see_42 : decode cX8_see 42 = .ok (.bipush (-4), 2) := by decide +kernel
theorem dX8_see_44 : decode cX8_see 44 = .ok (.ireturn, 1) := by decide +kernel
theorem dX8_see_45 : decode cX8_see 45 = .ok (.aload_n 0, 1) := by decide +kernel
theorem dX8_see_46 : decode cX8_see 46 = .ok (.getfield 52, 3) := by decide +kernel
theorem dX8_see_49 : decode cX8_see 49 = .ok (.iload_n 1, 1) := by decide +kernel
theorem dX8_see_50 : decode cX8_see 50 = .ok (.iload_n 2, 1) := by decide +kernel
theorem dX8_see_51 : decode cX8_see 51 = .ok (.iload_n 3, 1) := by decide +kernel
theorem dX8_see_52 : decode cX8_see 52 = .ok (.invokevirtual 244, 3) := by decide +kernel
theorem dX8_see_55 : decode cX8_see 55 = .ok (.aload_n 0, 1) := by decide +kernel
theorem dX8_see_56 : decode cX8_see 56 = .ok (.getfield 52, 3) := by decide +kernel
theorem dX8_see_59 : decode cX8_see 59 = .ok (.getfield 119, 3) := by decide +kernel
theorem dX8_see_62 : decode cX8_see 62 = .ok (.ireturn, 1) := by decide +kernel
theorem dX8_unsee_0 : decode cX8_unsee 0 = .ok (.aload_n 0, 1) := by decide +kernel
theorem dX8_unsee_1 : decode cX8_unsee 1 = .ok (.getfield 52, 3) := by decide +kernel
theorem dX8_unsee_4 : decode cX8_unsee 4 = .ok (.getfield 119, 3) := by decide +kernel
theorem dX8_unsee_7 : decode cX8_unsee 7 = .ok (.istore_n 1, 1) := by decide +kernel
theorem dX8_unsee_8 : decode cX8_unsee 8 = .ok (.aload_n 0, 1) := by decide +kernel
theorem dX8_unsee_9 : decode cX8_unsee 9 = .ok (.getfield 52, 3) := by decide +kernel
theorem dX8_unsee_12 : decode cX8_unsee 12 = .ok (.iconst 0, 1) := by decide +kernel
theorem dX8_unsee_13 : decode cX8_unsee 13 = .ok (.putfield 119, 3) := by decide +kernel
theorem dX8_unsee_16 : decode cX8_unsee 16 = .ok (.iload_n 1, 1) := by decide +kernel
theorem dX8_unsee_17 : decode cX8_unsee 17 = .ok (.ireturn, 1) := by decide +kernel
theorem dX8_palates_0 : decode cX8_palates 0 = .ok (.iload_n 1, 1) := by decide +kernel
theorem dX8_palates_1 : decode cX8_palates 1 = .ok (.invokestatic 241, 3) := by decide +kernel
theorem dX8_palates_4 : decode cX8_palates 4 = .ok (.ifCond .ne 6, 3) := by decide +kernel
theorem dX8_palates_7 : decode cX8_palates 7 = .ok (.bipush (-2), 2) := by decide +kernel
theorem dX8_palates_9 : decode cX8_palates 9 = .ok (.ireturn, 1) := by decide +kernel
theorem dX8_palates_10 : decode cX8_palates 10 = .ok (.aload_n 0, 1) := by decide +kernel
theorem dX8_palates_11 : decode cX8_palates 11 = .ok (.getfield 52, 3) := by decide +kernel
theorem dX8_palates_14 : decode cX8_palates 14 = .ok (.iload_n 1, 1) := by decide +kernel
theorem dX8_palates_15 : decode cX8_palates 15 = .ok (.invokevirtual 248, 3) := by decide +kernel
theorem dX8_palates_18 : decode cX8_palates 18 = .ok (.ireturn, 1) := by decide +kernel
theorem dX8_isKind_0 : decode cX8_isKind 0 = .ok (.iload_n 0, 1) := by decide +kernel
theorem dX8_isKind_1 : decode cX8_isKind 1 = .ok (.ifCond .lt 12, 3) := by decide +kernel
theorem dX8_isKind_4 : decode cX8_isKind 4 = .ok (.iload_n 0, 1) := by decide +kernel
theorem dX8_isKind_5 : decode cX8_isKind 5 = .ok (.iconst 3, 1) := by decide +kernel
theorem dX8_isKind_6 : decode cX8_isKind 6 = .ok (.if_icmp .gt 7, 3) := by decide +kernel
theorem dX8_isKind_9 : decode cX8_isKind 9 = .ok (.iconst 1, 1) := by decide +kernel
theorem dX8_isKind_10 : decode cX8_isKind 10 = .ok (.goto 4, 3) := by decide +kernel
theorem dX8_isKind_13 : decode cX8_isKind 13 = .ok (.iconst 0, 1) := by decide +kernel
theorem dX8_isKind_14 : decode cX8_isKind 14 = .ok (.ireturn, 1) := by decide +kernel
theorem dX8_rests_0 : decode cX8_rests 0 = .ok (.aload_n 0, 1) := by decide +kernel
theorem dX8_rests_1 : decode cX8_rests 1 = .ok (.getfield 19, 3) := by decide +kernel
theorem dX8_rests_4 : decode cX8_rests 4 = .ok (.iload_n 1, 1) := by decide +kernel
theorem dX8_rests_5 : decode cX8_rests 5 = .ok (.invokevirtual 120, 3) := by decide +kernel
theorem dX8_rests_8 : decode cX8_rests 8 = .ok (.ifCond .eq 14, 3) := by decide +kernel
theorem dX8_rests_11 : decode cX8_rests 11 = .ok (.aload_n 0, 1) := by decide +kernel
theorem dX8_rests_12 : decode cX8_rests 12 = .ok (.getfield 19, 3) := by decide +kernel
theorem dX8_rests_15 : decode cX8_rests 15 = .ok (.iload_n 2, 1) := by decide +kernel
theorem dX8_rests_16 : decode cX8_rests 16 = .ok (.invokevirtual 120, 3) := by decide +kernel
theorem dX8_rests_19 : decode cX8_rests 19 = .ok (.ifCond .ne 5, 3) := by decide +kernel
theorem dX8_rests_22 : decode cX8_rests 22 = .ok (.iconst (-1), 1) := by decide +kernel
theorem dX8_rests_23 : decode cX8_rests 23 = .ok (.ireturn, 1) := by decide +kernel
theorem dX8_rests_24 : decode cX8_rests 24 = .ok (.iload_n 1, 1) := by decide +kernel
theorem dX8_rests_25 : decode cX8_rests 25 = .ok (.iload_n 2, 1) := by decide +kernel
theorem dX8_rests_26 : decode cX8_rests 26 = .ok (.if_icmp .eq 12, 3) := by decide +kernel
theorem dX8_rests_29 : decode cX8_rests 29 = .ok (.iload_n 3, 1) := by decide +kernel
theorem dX8_rests_30 : decode cX8_rests 30 = .ok (.ifCond .lt 8, 3) := by decide +kernel
theorem dX8_rests_33 : decode cX8_rests 33 = .ok (.iload_n 3, 1) := by decide +kernel
theorem dX8_rests_34 : decode cX8_rests 34 = .ok (.iconst 1, 1) := by decide +kernel
theorem dX8_rests_35 : decode cX8_rests 35 = .ok (.if_icmp .le 6, 3) := by decide +kernel
theorem dX8_rests_38 : decode cX8_rests 38 = .ok (.bipush (-2), 2) := by decide +kernel
theorem dX8_rests_40 : decode cX8_rests 40 = .ok (.ireturn, 1) := by decide +kernel
theorem dX8_rests_41 : decode cX8_rests 41 = .ok (.aload_n 0, 1) := by decide +kernel
theorem dX8_rests_42 : decode cX8_rests 42 = .ok (.getfield 66, 3) := by decide +kernel
theorem dX8_rests_45 : decode cX8_rests 45 = .ok (.iload_n 1, 1) := by decide +kernel
theorem dX8_rests_46 : decode cX8_rests 46 = .ok (.iload_n 2, 1) := by decide +kernel
theorem dX8_rests_47 : decode cX8_rests 47 = .ok (.aload_n 0, 1) := by decide +kernel
theorem dX8_rests_48 : decode cX8_rests 48 = .ok (.getfield 28, 3) := by decide +kernel
theorem dX8_rests_51 : decode cX8_rests 51 = .ok (.getfield 98, 3) := by decide +kernel
theorem dX8_rests_54 : decode cX8_rests 54 = .ok (.invokevirtual 251, 3) := by decide +kernel
theorem dX8_rests_57 : decode cX8_rests 57 = .ok (.iload_n 3, 1) := by decide +kernel
theorem dX8_rests_58 : decode cX8_rests 58 = .ok (.ifCond .ne 13, 3) := by decide +kernel
theorem dX8_rests_61 : decode cX8_rests 61 = .ok (.aload_n 0, 1) := by decide +kernel
theorem dX8_rests_62 : decode cX8_rests 62 = .ok (.getfield 66, 3) := by decide +kernel
theorem dX8_rests_65 : decode cX8_rests 65 = .ok (.getfield 254, 3) := by decide +kernel
theorem dX8_rests_68 : decode cX8_rests 68 = .ok (.goto 10, 3) := by decide +kernel
theorem dX8_rests_71 : decode cX8_rests 71 = .ok (.aload_n 0, 1) := by decide +kernel
theorem dX8_rests_72 : decode cX8_rests 72 = .ok (.getfield 66, 3) := by decide +kernel
theorem dX8_rests_75 : decode cX8_rests 75 = .ok (.getfield 255, 3) := by decide +kernel
theorem dX8_rests_78 : decode cX8_rests 78 = .ok (.ireturn, 1) := by decide +kernel
theorem dX8_chance_0 : decode cX8_chance 0 = .ok (.aload_n 0, 1) := by decide +kernel
theorem dX8_chance_1 : decode cX8_chance 1 = .ok (.getfield 19, 3) := by decide +kernel
theorem dX8_chance_4 : decode cX8_chance 4 = .ok (.iload_n 1, 1) := by decide +kernel
theorem dX8_chance_5 : decode cX8_chance 5 = .ok (.invokevirtual 120, 3) := by decide +kernel
theorem dX8_chance_8 : decode cX8_chance 8 = .ok (.ifCond .ne 5, 3) := by decide +kernel
theorem dX8_chance_11 : decode cX8_chance 11 = .ok (.iconst (-1), 1) := by decide +kernel
theorem dX8_chance_12 : decode cX8_chance 12 = .ok (.ireturn, 1) := by decide +kernel
theorem dX8_chance_13 : decode cX8_chance 13 = .ok (.iload_n 2, 1) := by decide +kernel
theorem dX8_chance_14 : decode cX8_chance 14 = .ok (.iconst 1, 1) := by decide +kernel
theorem dX8_chance_15 : decode cX8_chance 15 = .ok (.if_icmp .lt 19, 3) := by decide +kernel
theorem dX8_chance_18 : decode cX8_chance 18 = .ok (.iload_n 2, 1) := by decide +kernel
theorem dX8_chance_19 : decode cX8_chance 19 = .ok (.bipush 6, 2) := by decide +kernel
theorem dX8_chance_21 : decode cX8_chance 21 = .ok (.if_icmp .gt 13, 3) := by decide +kernel
theorem dX8_chance_24 : decode cX8_chance 24 = .ok (.iload_n 3, 1) := by decide +kernel
theorem dX8_chance_25 : decode cX8_chance 25 = .ok (.ifCond .lt 9, 3) := by decide +kernel
theorem dX8_chance_28 : decode cX8_chance 28 = .ok (.iload_n 3, 1) := by decide +kernel
theorem dX8_chance_29 : decode cX8_chance 29 = .ok (.bipush 10, 2) := by decide +kernel
theorem dX8_chance_31 : decode cX8_chance 31 = .ok (.if_icmp .le 6, 3) := by decide +kernel
theorem dX8_chance_34 : decode cX8_chance 34 = .ok (.bipush (-2), 2) := by decide +kernel
theorem dX8_chance_36 : decode cX8_chance 36 = .ok (.ireturn, 1) := by decide +kernel
theorem dX8_chance_37 : decode cX8_chance 37 = .ok (.iconst 0, 1) := by decide +kernel
theorem dX8_chance_38 : decode cX8_chance 38 = .ok (.istore 5, 2) := by decide +kernel
theorem dX8_chance_40 : decode cX8_chance 40 = .ok (.iconst 0, 1) := by decide +kernel
theorem dX8_chance_41 : decode cX8_chance 41 = .ok (.istore 6, 2) := by decide +kernel
theorem dX8_chance_43 : decode cX8_chance 43 = .ok (.iload 6, 2) := by decide +kernel
theorem dX8_chance_45 : decode cX8_chance 45 = .ok (.iconst 1, 1) := by decide +kernel
theorem dX8_chance_46 : decode cX8_chance 46 = .ok (.iload_n 2, 1) := by decide +kernel
theorem dX8_chance_47 : decode cX8_chance 47 = .ok (.ishl, 1) := by decide +kernel
theorem dX8_chance_48 : decode cX8_chance 48 = .ok (.if_icmp .ge 43, 3) := by decide +kernel
theorem dX8_chance_51 : decode cX8_chance 51 = .ok (.aload_n 0, 1) := by decide +kernel
theorem dX8_chance_52 : decode cX8_chance 52 = .ok (.getfield 28, 3) := by decide +kernel
theorem dX8_chance_55 : decode cX8_chance 55 = .ok (.iload_n 1, 1) := by decide +kernel
theorem dX8_chance_56 : decode cX8_chance 56 = .ok (.invokevirtual 176, 3) := by decide +kernel
theorem dX8_chance_59 : decode cX8_chance 59 = .ok (.ifCond .eq 26, 3) := by decide +kernel
theorem dX8_chance_62 : decode cX8_chance 62 = .ok (.aload_n 0, 1) := by decide +kernel
theorem dX8_chance_63 : decode cX8_chance 63 = .ok (.iload_n 1, 1) := by decide +kernel
theorem dX8_chance_64 : decode cX8_chance 64 = .ok (.iload_n 2, 1) := by decide +kernel
theorem dX8_chance_65 : decode cX8_chance 65 = .ok (.iload 6, 2) := by decide +kernel
theorem dX8_chance_67 : decode cX8_chance 67 = .ok (.invokevirtual 258, 3) := by decide +kernel
theorem dX8_chance_70 : decode cX8_chance 70 = .ok (.ifCond .eq 15, 3) := by decide +kernel
theorem dX8_chance_73 : decode cX8_chance 73 = .ok (.iload 5, 2) := by decide +kernel
theorem dX8_chance_75 : decode cX8_chance 75 = .ok (.iload_n 2, 1) := by decide +kernel
theorem dX8_chance_76 : decode cX8_chance 76 = .ok (.iload 6, 2) := by decide +kernel
theorem dX8_chance_78 : decode cX8_chance 78 = .ok (.iload_n 3, 1) := by decide +kernel
theorem dX8_chance_79 : decode cX8_chance 79 = .ok (.invokestatic 261, 3) := by decide +kernel
theorem dX8_chance_82 : decode cX8_chance 82 = .ok (.iadd, 1) := by decide +kernel
theorem dX8_chance_83 : decode cX8_chance 83 = .ok (.istore 5, 2) := by decide +kernel
theorem dX8_chance_85 : decode cX8_chance 85 = .ok (.iinc 6 1, 3) := by decide +kernel
theorem dX8_chance_88 : decode cX8_chance 88 = .ok (.goto (-45), 3) := by decide +kernel
theorem dX8_chance_91 : decode cX8_chance 91 = .ok (.iload 5, 2) := by decide +kernel
theorem dX8_chance_93 : decode cX8_chance 93 = .ok (.iload_n 2, 1) := by decide +kernel
theorem dX8_chance_94 : decode cX8_chance 94 = .ok (.invokestatic 209, 3) := by decide +kernel
theorem dX8_chance_97 : decode cX8_chance 97 = .ok (.iload 4, 2) := by decide +kernel
theorem dX8_chance_99 : decode cX8_chance 99 = .ok (.invokestatic 224, 3) := by decide +kernel
theorem dX8_chance_102 : decode cX8_chance 102 = .ok (.ireturn, 1) := by decide +kernel
theorem dX8_stillEats_0 : decode cX8_stillEats 0 = .ok (.aload_n 0, 1) := by decide +kernel
theorem dX8_stillEats_1 : decode cX8_stillEats 1 = .ok (.getfield 28, 3) := by decide +kernel
theorem dX8_stillEats_4 : decode cX8_stillEats 4 = .ok (.getfield 134, 3) := by decide +kernel
theorem dX8_stillEats_7 : decode cX8_stillEats 7 = .ok (.iload_n 1, 1) := by decide +kernel
theorem dX8_stillEats_8 : decode cX8_stillEats 8 = .ok (.iaload, 1) := by decide +kernel
theorem dX8_stillEats_9 : decode cX8_stillEats 9 = .ok (.istore 4, 2) := by decide +kernel
theorem dX8_stillEats_11 : decode cX8_stillEats 11 = .ok (.iconst 0, 1) := by decide +kernel
theorem dX8_stillEats_12 : decode cX8_stillEats 12 = .ok (.istore 5, 2) := by decide +kernel
theorem dX8_stillEats_14 : decode cX8_stillEats 14 = .ok (.iload 5, 2) := by decide +kernel
theorem dX8_stillEats_16 : decode cX8_stillEats 16 = .ok (.iload_n 2, 1) := by decide +kernel
theorem dX8_stillEats_17 : decode cX8_stillEats 17 = .ok (.if_icmp .ge 45, 3) := by decide +kernel
theorem dX8_stillEats_20 : decode cX8_stillEats 20 = .ok (.iload_n 3, 1) := by decide +kernel
theorem dX8_stillEats_21 : decode cX8_stillEats 21 = .ok (.iload 5, 2) := by decide +kernel
theorem dX8_stillEats_23 : decode cX8_stillEats 23 = .ok (.ishr, 1) := by decide +kernel
theorem dX8_stillEats_24 : decode cX8_stillEats 24 = .ok (.iconst 1, 1) := by decide +kernel
theorem dX8_stillEats_25 : decode cX8_stillEats 25 = .ok (.iand, 1) := by decide +kernel
theorem dX8_stillEats_26 : decode cX8_stillEats 26 = .ok (.ifCond .ne 30, 3) := by decide +kernel
theorem dX8_stillEats_29 : decode cX8_stillEats 29 = .ok (.iload 4, 2) := by decide +kernel
theorem dX8_stillEats_31 : decode cX8_stillEats 31 = .ok (.aload_n 0, 1) := by decide +kernel
theorem dX8_stillEats_32 : decode cX8_stillEats 32 = .ok (.getfield 19, 3) := by decide +kernel
theorem dX8_stillEats_35 : decode cX8_stillEats 35 = .ok (.iload_n 1, 1) := by decide +kernel
theorem dX8_stillEats_36 : decode cX8_stillEats 36 = .ok (.iconst 0, 1) := by decide +kernel
theorem dX8_stillEats_37 : decode cX8_stillEats 37 = .ok (.aload_n 0, 1) := by decide +kernel
theorem dX8_stillEats_38 : decode cX8_stillEats 38 = .ok (.getfield 28, 3) := by decide +kernel
theorem dX8_stillEats_41 : decode cX8_stillEats 41 = .ok (.getfield 98, 3) := by decide +kernel
theorem dX8_stillEats_44 : decode cX8_stillEats 44 = .ok (.iload 5, 2) := by decide +kernel
theorem dX8_stillEats_46 : decode cX8_stillEats 46 = .ok (.isub, 1) := by decide +kernel
theorem dX8_stillEats_47 : decode cX8_stillEats 47 = .ok (.invokestatic 236, 3) := by decide +kernel
theorem dX8_stillEats_50 : decode cX8_stillEats 50 = .ok (.invokevirtual 137, 3) := by decide +kernel
theorem dX8_stillEats_53 : decode cX8_stillEats 53 = .ok (.iadd, 1) := by decide +kernel
theorem dX8_stillEats_54 : decode cX8_stillEats 54 = .ok (.istore 4, 2) := by decide +kernel
theorem dX8_stillEats_56 : decode cX8_stillEats 56 = .ok (.iinc 5 1, 3) := by decide +kernel
theorem dX8_stillEats_59 : decode cX8_stillEats 59 = .ok (.goto (-45), 3) := by decide +kernel
theorem dX8_stillEats_62 : decode cX8_stillEats 62 = .ok (.iload 4, 2) := by decide +kernel
theorem dX8_stillEats_64 : decode cX8_stillEats 64 = .ok (.aload_n 0, 1) := by decide +kernel
theorem dX8_stillEats_65 : decode cX8_stillEats 65 = .ok (.getfield 19, 3) := by decide +kernel
theorem dX8_stillEats_68 : decode cX8_stillEats 68 = .ok (.iload_n 1, 1) := by decide +kernel
theorem dX8_stillEats_69 : decode cX8_stillEats 69 = .ok (.invokevirtual 265, 3) := by decide +kernel
theorem dX8_stillEats_72 : decode cX8_stillEats 72 = .ok (.if_icmp .ge 7, 3) := by decide +kernel
theorem dX8_stillEats_75 : decode cX8_stillEats 75 = .ok (.iconst 1, 1) := by decide +kernel
theorem dX8_stillEats_76 : decode cX8_stillEats 76 = .ok (.goto 4, 3) := by decide +kernel
theorem dX8_stillEats_79 : decode cX8_stillEats 79 = .ok (.iconst 0, 1) := by decide +kernel
theorem dX8_stillEats_80 : decode cX8_stillEats 80 = .ok (.ireturn, 1) := by decide +kernel
theorem dX8_weight_0 : decode cX8_weight 0 = .ok (.iconst 1, 1) := by decide +kernel
theorem dX8_weight_1 : decode cX8_weight 1 = .ok (.istore_n 3, 1) := by decide +kernel
theorem dX8_weight_2 : decode cX8_weight 2 = .ok (.iconst 0, 1) := by decide +kernel
theorem dX8_weight_3 : decode cX8_weight 3 = .ok (.istore 4, 2) := by decide +kernel
theorem dX8_weight_5 : decode cX8_weight 5 = .ok (.iload 4, 2) := by decide +kernel
theorem dX8_weight_7 : decode cX8_weight 7 = .ok (.iload_n 0, 1) := by decide +kernel
theorem dX8_weight_8 : decode cX8_weight 8 = .ok (.if_icmp .ge 29, 3) := by decide +kernel
theorem dX8_weight_11 : decode cX8_weight 11 = .ok (.iload_n 3, 1) := by decide +kernel
theorem dX8_weight_12 : decode cX8_weight 12 = .ok (.iload_n 1, 1) := by decide +kernel
theorem dX8_weight_13 : decode cX8_weight 13 = .ok (.iload 4, 2) := by decide +kernel
theorem dX8_weight_15 : decode cX8_weight 15 = .ok (.ishr, 1) := by decide +kernel
theorem dX8_weight_16 : decode cX8_weight 16 = .ok (.iconst 1, 1) := by decide +kernel
theorem dX8_weight_17 : decode cX8_weight 17 = .ok (.iand, 1) := by decide +kernel
theorem dX8_weight_18 : decode cX8_weight 18 = .ok (.ifCond .ne 10, 3) := by decide +kernel
theorem dX8_weight_21 : decode cX8_weight 21 = .ok (.bipush 10, 2) := by decide +kernel
theorem dX8_weight_23 : decode cX8_weight 23 = .ok (.iload_n 2, 1) := by decide +kernel
theorem dX8_weight_24 : decode cX8_weight 24 = .ok (.isub, 1) := by decide +kernel
theorem dX8_weight_25 : decode cX8_weight 25 = .ok (.goto 4, 3) := by decide +kernel
theorem dX8_weight_28 : decode cX8_weight 28 = .ok (.iload_n 2, 1) := by decide +kernel
theorem dX8_weight_29 : decode cX8_weight 29 = .ok (.imul, 1) := by decide +kernel
theorem dX8_weight_30 : decode cX8_weight 30 = .ok (.istore_n 3, 1) := by decide +kernel
theorem dX8_weight_31 : decode cX8_weight 31 = .ok (.iinc 4 1, 3) := by decide +kernel
theorem dX8_weight_34 : decode cX8_weight 34 = .ok (.goto (-29), 3) := by decide +kernel
theorem dX8_weight_37 : decode cX8_weight 37 = .ok (.iload_n 3, 1) := by decide +kernel
theorem dX8_weight_38 : decode cX8_weight 38 = .ok (.ireturn, 1) := by decide +kernel
theorem dX8_seed_0 : decode cX8_seed 0 = .ok (.aload_n 0, 1) := by decide +kernel
theorem dX8_seed_1 : decode cX8_seed 1 = .ok (.getfield 268, 3) := by decide +kernel
theorem dX8_seed_4 : decode cX8_seed 4 = .ok (.lstore_n 3, 1) := by decide +kernel
theorem dX8_seed_5 : decode cX8_seed 5 = .ok (.aload_n 0, 1) := by decide +kernel
theorem dX8_seed_6 : decode cX8_seed 6 = .ok (.lload_n 1, 1) := by decide +kernel
theorem dX8_seed_7 : decode cX8_seed 7 = .ok (.putfield 268, 3) := by decide +kernel
theorem dX8_seed_10 : decode cX8_seed 10 = .ok (.lload_n 3, 1) := by decide +kernel
theorem dX8_seed_11 : decode cX8_seed 11 = .ok (.lreturn, 1) := by decide +kernel
theorem dX8_talks_0 : decode cX8_talks 0 = .ok (.iload_n 1, 1) := by decide +kernel
theorem dX8_talks_1 : decode cX8_talks 1 = .ok (.iconst 1, 1) := by decide +kernel
theorem dX8_talks_2 : decode cX8_talks 2 = .ok (.if_icmp .lt 9, 3) := by decide +kernel
theorem dX8_talks_5 : decode cX8_talks 5 = .ok (.iload_n 1, 1) := by decide +kernel
theorem dX8_talks_6 : decode cX8_talks 6 = .ok (.bipush 30, 2) := by decide +kernel
theorem dX8_talks_8 : decode cX8_talks 8 = .ok (.if_icmp .le 6, 3) := by decide +kernel
theorem dX8_talks_11 : decode cX8_talks 11 = .ok (.bipush (-2), 2) := by decide +kernel
theorem dX8_talks_13 : decode cX8_talks 13 = .ok (.ireturn, 1) := by decide +kernel
theorem dX8_talks_14 : decode cX8_talks 14 = .ok (.aload_n 0, 1) := by decide +kernel
theorem dX8_talks_15 : decode cX8_talks 15 = .ok (.getfield 32, 3) := by decide +kernel
theorem dX8_talks_18 : decode cX8_talks 18 = .ok (.aload_n 0, 1) := by decide +kernel
theorem dX8_talks_19 : decode cX8_talks 19 = .ok (.getfield 28, 3) := by decide +kernel
theorem dX8_talks_22 : decode cX8_talks 22 = .ok (.invokevirtual 188, 3) := by decide +kernel
theorem dX8_talks_25 : decode cX8_talks 25 = .ok (.iconst 0, 1) := by decide +kernel
theorem dX8_talks_26 : decode cX8_talks 26 = .ok (.istore_n 2, 1) := by decide +kernel
theorem dX8_talks_27 : decode cX8_talks 27 = .ok (.iload_n 2, 1) := by decide +kernel
theorem dX8_talks_28 : decode cX8_talks 28 = .ok (.iload_n 1, 1) := by decide +kernel
theorem dX8_talks_29 : decode cX8_talks 29 = .ok (.if_icmp .ge 41, 3) := by decide +kernel
theorem dX8_talks_32 : decode cX8_talks 32 = .ok (.aload_n 0, 1) := by decide +kernel
theorem dX8_talks_33 : decode cX8_talks 33 = .ok (.aload_n 0, 1) := by decide +kernel
theorem dX8_talks_34 : decode cX8_talks 34 = .ok (.getfield 268, 3) := by decide +kernel
theorem dX8_talks_37 : decode cX8_talks 37 = .ok (.ldc2_w 272, 3) := by decide +kernel
theorem dX8_talks_40 : decode cX8_talks 40 = .ok (.lmul, 1) := by decide +kernel
theorem dX8_talks_41 : decode cX8_talks 41 = .ok (.ldc2_w 274, 3) := by decide +kernel
theorem dX8_talks_44 : decode cX8_talks 44 = .ok (.ladd, 1) := by decide +kernel
theorem dX8_talks_45 : decode cX8_talks 45 = .ok (.putfield 268, 3) := by decide +kernel
theorem dX8_talks_48 : decode cX8_talks 48 = .ok (.aload_n 0, 1) := by decide +kernel
theorem dX8_talks_49 : decode cX8_talks 49 = .ok (.aload_n 0, 1) := by decide +kernel
theorem dX8_talks_50 : decode cX8_talks 50 = .ok (.getfield 268, 3) := by decide +kernel
theorem dX8_talks_53 : decode cX8_talks 53 = .ok (.bipush 33, 2) := by decide +kernel
theorem dX8_talks_55 : decode cX8_talks 55 = .ok (.lushr, 1) := by decide +kernel
theorem dX8_talks_56 : decode cX8_talks 56 = .ok (.ldc2_w 276, 3) := by decide +kernel
theorem dX8_talks_59 : decode cX8_talks 59 = .ok (.lrem, 1) := by decide +kernel
theorem dX8_talks_60 : decode cX8_talks 60 = .ok (.l2i, 1) := by decide +kernel
theorem dX8_talks_61 : decode cX8_talks 61 = .ok (.invokevirtual 278, 3) := by decide +kernel
theorem dX8_talks_64 : decode cX8_talks 64 = .ok (.iinc 2 1, 3) := by decide +kernel
theorem dX8_talks_67 : decode cX8_talks 67 = .ok (.goto (-40), 3) := by decide +kernel
theorem dX8_talks_70 : decode cX8_talks 70 = .ok (.aload_n 0, 1) := by decide +kernel
theorem dX8_talks_71 : decode cX8_talks 71 = .ok (.getfield 19, 3) := by decide +kernel
theorem dX8_talks_74 : decode cX8_talks 74 = .ok (.aload_n 0, 1) := by decide +kernel
theorem dX8_talks_75 : decode cX8_talks 75 = .ok (.getfield 32, 3) := by decide +kernel
theorem dX8_talks_78 : decode cX8_talks 78 = .ok (.getfield 107, 3) := by decide +kernel
theorem dX8_talks_81 : decode cX8_talks 81 = .ok (.aload_n 0, 1) := by decide +kernel
theorem dX8_talks_82 : decode cX8_talks 82 = .ok (.getfield 28, 3) := by decide +kernel
theorem dX8_talks_85 : decode cX8_talks 85 = .ok (.getfield 107, 3) := by decide +kernel
theorem dX8_talks_88 : decode cX8_talks 88 = .ok (.iconst (-1), 1) := by decide +kernel
theorem dX8_talks_89 : decode cX8_talks 89 = .ok (.ixor, 1) := by decide +kernel
theorem dX8_talks_90 : decode cX8_talks 90 = .ok (.iand, 1) := by decide +kernel
theorem dX8_talks_91 : decode cX8_talks 91 = .ok (.invokevirtual 281, 3) := by decide +kernel
theorem dX8_talks_94 : decode cX8_talks 94 = .ok (.ireturn, 1) := by decide +kernel
theorem dX8_takeDrawnTurn_0 : decode cX8_takeDrawnTurn 0 = .ok (.iload_n 1, 1) := by decide +kernel
theorem dX8_takeDrawnTurn_1 : decode cX8_takeDrawnTurn 1 = .ok (.iconst 5, 1) := by decide +kernel
theorem dX8_takeDrawnTurn_2 : decode cX8_takeDrawnTurn 2 = .ok (.if_icmp .le 13, 3) := by decide +kernel
theorem dX8_takeDrawnTurn_5 : decode cX8_takeDrawnTurn 5 = .ok (.aload_n 0, 1) := by decide +kernel
theorem dX8_takeDrawnTurn_6 : decode cX8_takeDrawnTurn 6 = .ok (.getfield 32, 3) := by decide +kernel
theorem dX8_takeDrawnTurn_9 : decode cX8_takeDrawnTurn 9 = .ok (.invokevirtual 164, 3) := by decide +kernel
theorem dX8_takeDrawnTurn_12 : decode cX8_takeDrawnTurn 12 = .ok (.goto 32, 3) := by decide +kernel
theorem dX8_takeDrawnTurn_15 : decode cX8_takeDrawnTurn 15 = .ok (.iload_n 1, 1) := by decide +kernel
theorem dX8_takeDrawnTurn_16 : decode cX8_takeDrawnTurn 16 = .ok (.iconst 5, 1) := by decide +kernel
theorem dX8_takeDrawnTurn_17 : decode cX8_takeDrawnTurn 17 = .ok (.if_icmp .ne 16, 3) := by decide +kernel
theorem dX8_takeDrawnTurn_20 : decode cX8_takeDrawnTurn 20 = .ok (.aload_n 0, 1) := by decide +kernel
theorem dX8_takeDrawnTurn_21 : decode cX8_takeDrawnTurn 21 = .ok (.getfield 32, 3) := by decide +kernel
theorem dX8_takeDrawnTurn_24 : decode cX8_takeDrawnTurn 24 = .ok (.bipush 6, 2) := by decide +kernel
theorem dX8_takeDrawnTurn_26 : decode cX8_takeDrawnTurn 26 = .ok (.invokevirtual 212, 3) := by decide +kernel
theorem dX8_takeDrawnTurn_29 : decode cX8_takeDrawnTurn 29 = .ok (.pop, 1) := by decide +kernel
theorem dX8_takeDrawnTurn_30 : decode cX8_takeDrawnTurn 30 = .ok (.goto 14, 3) := by decide +kernel
theorem dX8_takeDrawnTurn_33 : decode cX8_takeDrawnTurn 33 = .ok (.aload_n 0, 1) := by decide +kernel
theorem dX8_takeDrawnTurn_34 : decode cX8_takeDrawnTurn 34 = .ok (.getfield 32, 3) := by decide +kernel
theorem dX8_takeDrawnTurn_37 : decode cX8_takeDrawnTurn 37 = .ok (.iload_n 1, 1) := by decide +kernel
theorem dX8_takeDrawnTurn_38 : decode cX8_takeDrawnTurn 38 = .ok (.iconst 1, 1) := by decide +kernel
theorem dX8_takeDrawnTurn_39 : decode cX8_takeDrawnTurn 39 = .ok (.iadd, 1) := by decide +kernel
theorem dX8_takeDrawnTurn_40 : decode cX8_takeDrawnTurn 40 = .ok (.invokevirtual 212, 3) := by decide +kernel
theorem dX8_takeDrawnTurn_43 : decode cX8_takeDrawnTurn 43 = .ok (.pop, 1) := by decide +kernel
theorem dX8_takeDrawnTurn_44 : decode cX8_takeDrawnTurn 44 = .ok (.return_, 1) := by decide +kernel
theorem dX8_keep_0 : decode cX8_keep 0 = .ok (.iload_n 1, 1) := by decide +kernel
theorem dX8_keep_1 : decode cX8_keep 1 = .ok (.ifCond .lt 8, 3) := by decide +kernel
theorem dX8_keep_4 : decode cX8_keep 4 = .ok (.iload_n 1, 1) := by decide +kernel
theorem dX8_keep_5 : decode cX8_keep 5 = .ok (.iconst 2, 1) := by decide +kernel
theorem dX8_keep_6 : decode cX8_keep 6 = .ok (.if_icmp .lt 5, 3) := by decide +kernel
theorem dX8_keep_9 : decode cX8_keep 9 = .ok (.iconst (-1), 1) := by decide +kernel
theorem dX8_keep_10 : decode cX8_keep 10 = .ok (.ireturn, 1) := by decide +kernel
theorem dX8_keep_11 : decode cX8_keep 11 = .ok (.aload_n 0, 1) := by decide +kernel
theorem dX8_keep_12 : decode cX8_keep 12 = .ok (.getfield 45, 3) := by decide +kernel
theorem dX8_keep_15 : decode cX8_keep 15 = .ok (.iload_n 1, 1) := by decide +kernel
theorem dX8_keep_16 : decode cX8_keep 16 = .ok (.aload_n 0, 1) := by decide +kernel
theorem dX8_keep_17 : decode cX8_keep 17 = .ok (.getfield 28, 3) := by decide +kernel
theorem dX8_keep_20 : decode cX8_keep 20 = .ok (.invokevirtual 284, 3) := by decide +kernel
theorem dX8_keep_23 : decode cX8_keep 23 = .ok (.aload_n 0, 1) := by decide +kernel
theorem dX8_keep_24 : decode cX8_keep 24 = .ok (.getfield 28, 3) := by decide +kernel
theorem dX8_keep_27 : decode cX8_keep 27 = .ok (.getfield 110, 3) := by decide +kernel
theorem dX8_keep_30 : decode cX8_keep 30 = .ok (.ireturn, 1) := by decide +kernel
theorem dX8_again_0 : decode cX8_again 0 = .ok (.iload_n 1, 1) := by decide +kernel
theorem dX8_again_1 : decode cX8_again 1 = .ok (.ifCond .lt 8, 3) := by decide +kernel
theorem dX8_again_4 : decode cX8_again 4 = .ok (.iload_n 1, 1) := by decide +kernel
theorem dX8_again_5 : decode cX8_again 5 = .ok (.iconst 2, 1) := by decide +kernel
theorem dX8_again_6 : decode cX8_again 6 = .ok (.if_icmp .lt 5, 3) := by decide +kernel
theorem dX8_again_9 : decode cX8_again 9 = .ok (.iconst (-1), 1) := by decide +kernel
theorem dX8_again_10 : decode cX8_again 10 = .ok (.ireturn, 1) := by decide +kernel
theorem dX8_again_11 : decode cX8_again 11 = .ok (.aload_n 0, 1) := by decide +kernel
theorem dX8_again_12 : decode cX8_again 12 = .ok (.getfield 45, 3) := by decide +kernel
theorem dX8_again_15 : decode cX8_again 15 = .ok (.getfield 288, 3) := by decide +kernel
theorem dX8_again_18 : decode cX8_again 18 = .ok (.iload_n 1, 1) := by decide +kernel
theorem dX8_again_19 : decode cX8_again 19 = .ok (.baload, 1) := by decide +kernel
theorem dX8_again_20 : decode cX8_again 20 = .ok (.ifCond .ne 6, 3) := by decide +kernel
theorem dX8_again_23 : decode cX8_again 23 = .ok (.bipush (-3), 2) := by decide +kernel
theorem dX8_again_25 : decode cX8_again 25 = .ok (.ireturn, 1) := by decide +kernel
theorem dX8_again_26 : decode cX8_again 26 = .ok (.aload_n 0, 1) := by decide +kernel
theorem dX8_again_27 : decode cX8_again 27 = .ok (.getfield 28, 3) := by decide +kernel
theorem dX8_again_30 : decode cX8_again 30 = .ok (.aload_n 0, 1) := by decide +kernel
theorem dX8_again_31 : decode cX8_again 31 = .ok (.getfield 45, 3) := by decide +kernel
theorem dX8_again_34 : decode cX8_again 34 = .ok (.getfield 292, 3) := by decide +kernel
theorem dX8_again_37 : decode cX8_again 37 = .ok (.iload_n 1, 1) := by decide +kernel
theorem dX8_again_38 : decode cX8_again 38 = .ok (.aaload, 1) := by decide +kernel
theorem dX8_again_39 : decode cX8_again 39 = .ok (.invokevirtual 188, 3) := by decide +kernel
theorem dX8_again_42 : decode cX8_again 42 = .ok (.aload_n 0, 1) := by decide +kernel
theorem dX8_again_43 : decode cX8_again 43 = .ok (.getfield 38, 3) := by decide +kernel
theorem dX8_again_46 : decode cX8_again 46 = .ok (.invokevirtual 88, 3) := by decide +kernel
theorem dX8_again_49 : decode cX8_again 49 = .ok (.aload_n 0, 1) := by decide +kernel
theorem dX8_again_50 : decode cX8_again 50 = .ok (.getfield 28, 3) := by decide +kernel
theorem dX8_again_53 : decode cX8_again 53 = .ok (.getfield 110, 3) := by decide +kernel
theorem dX8_again_56 : decode cX8_again 56 = .ok (.ireturn, 1) := by decide +kernel
theorem dX9_init_0 : decode cX9_init 0 = .ok (.aload_n 0, 1) := by decide +kernel
theorem dX9_init_1 : decode cX9_init 1 = .ok (.invokespecial 1, 3) := by decide +kernel
theorem dX9_init_4 : decode cX9_init 4 = .ok (.aload_n 0, 1) := by decide +kernel
theorem dX9_init_5 : decode cX9_init 5 = .ok (.bipush 48, 2) := by decide +kernel
theorem dX9_init_7 : decode cX9_init 7 = .ok (.newarray .int, 2) := by decide +kernel
theorem dX9_init_9 : decode cX9_init 9 = .ok (.putfield 7, 3) := by decide +kernel
theorem dX9_init_12 : decode cX9_init 12 = .ok (.aload_n 0, 1) := by decide +kernel
theorem dX9_init_13 : decode cX9_init 13 = .ok (.bipush 12, 2) := by decide +kernel
theorem dX9_init_15 : decode cX9_init 15 = .ok (.newarray .int, 2) := by decide +kernel
theorem dX9_init_17 : decode cX9_init 17 = .ok (.putfield 13, 3) := by decide +kernel
theorem dX9_init_20 : decode cX9_init 20 = .ok (.aload_n 0, 1) := by decide +kernel
theorem dX9_init_21 : decode cX9_init 21 = .ok (.bipush 15, 2) := by decide +kernel
theorem dX9_init_23 : decode cX9_init 23 = .ok (.newarray .int, 2) := by decide +kernel
theorem dX9_init_25 : decode cX9_init 25 = .ok (.putfield 16, 3) := by decide +kernel
theorem dX9_init_28 : decode cX9_init 28 = .ok (.aload_n 0, 1) := by decide +kernel
theorem dX9_init_29 : decode cX9_init 29 = .ok (.bipush 12, 2) := by decide +kernel
theorem dX9_init_31 : decode cX9_init 31 = .ok (.newarray .int, 2) := by decide +kernel
theorem dX9_init_33 : decode cX9_init 33 = .ok (.putfield 19, 3) := by decide +kernel
theorem dX9_init_36 : decode cX9_init 36 = .ok (.aload_n 0, 1) := by decide +kernel
theorem dX9_init_37 : decode cX9_init 37 = .ok (.bipush 15, 2) := by decide +kernel
theorem dX9_init_39 : decode cX9_init 39 = .ok (.newarray .int, 2) := by decide +kernel
theorem dX9_init_41 : decode cX9_init 41 = .ok (.putfield 22, 3) := by decide +kernel
theorem dX9_init_44 : decode cX9_init 44 = .ok (.aload_n 0, 1) := by decide +kernel
theorem dX9_init_45 : decode cX9_init 45 = .ok (.bipush 10, 2) := by decide +kernel
theorem dX9_init_47 : decode cX9_init 47 = .ok (.newarray .int, 2) := by decide +kernel
theorem dX9_init_49 : decode cX9_init 49 = .ok (.putfield 25, 3) := by decide +kernel
theorem dX9_init_52 : decode cX9_init 52 = .ok (.aload_n 0, 1) := by decide +kernel
theorem dX9_init_53 : decode cX9_init 53 = .ok (.bipush 10, 2) := by decide +kernel
theorem dX9_init_55 : decode cX9_init 55 = .ok (.newarray .int, 2) := by decide +kernel
theorem dX9_init_57 : decode cX9_init 57 = .ok (.putfield 28, 3) := by decide +kernel
theorem dX9_init_60 : decode cX9_init 60 = .ok (.aload_n 0, 1) := by decide +kernel
theorem dX9_init_61 : decode cX9_init 61 = .ok (.sipush 140, 3) := by decide +kernel
theorem dX9_init_64 : decode cX9_init 64 = .ok (.newarray .int, 2) := by decide +kernel
theorem dX9_init_66 : decode cX9_init 66 = .ok (.putfield 31, 3) := by decide +kernel
theorem dX9_init_69 : decode cX9_init 69 = .ok (.aload_n 0, 1) := by decide +kernel
theorem dX9_init_70 : decode cX9_init 70 = .ok (.bipush 20, 2) := by decide +kernel
theorem dX9_init_72 : decode cX9_init 72 = .ok (.newarray .int, 2) := by decide +kernel
theorem dX9_init_74 : decode cX9_init 74 = .ok (.putfield 34, 3) := by decide +kernel
theorem dX9_init_77 : decode cX9_init 77 = .ok (.aload_n 0, 1) := by decide +kernel
theorem dX9_init_78 : decode cX9_init 78 = .ok (.iconst 2, 1) := by decide +kernel
theorem dX9_init_79 : decode cX9_init 79 = .ok (.newarray .boolean, 2) := by decide +kernel
theorem dX9_init_81 : decode cX9_init 81 = .ok (.putfield 37, 3) := by decide +kernel
theorem dX9_init_84 : decode cX9_init 84 = .ok (.aload_n 0, 1) := by decide +kernel
theorem dX9_init_85 : decode cX9_init 85 = .ok (.bipush 6, 2) := by decide +kernel
theorem dX9_init_87 : decode cX9_init 87 = .ok (.newarray .int, 2) := by decide +kernel
theorem dX9_init_89 : decode cX9_init 89 = .ok (.putfield 41, 3) := by decide +kernel
theorem dX9_init_92 : decode cX9_init 92 = .ok (.aload_n 0, 1) := by decide +kernel
theorem dX9_init_93 : decode cX9_init 93 = .ok (.bipush 6, 2) := by decide +kernel
theorem dX9_init_95 : decode cX9_init 95 = .ok (.newarray .int, 2) := by decide +kernel
theorem dX9_init_97 : decode cX9_init 97 = .ok (.putfield 44, 3) := by decide +kernel
theorem dX9_init_100 : decode cX9_init 100 = .ok (.aload_n 0, 1) := by decide +kernel
theorem dX9_init_101 : decode cX9_init 101 = .ok (.bipush 6, 2) := by decide +kernel
theorem dX9_init_103 : decode cX9_init 103 = .ok (.newarray .int, 2) := by decide +kernel
theorem dX9_init_105 : decode cX9_init 105 = .ok (.putfield 47, 3) := by decide +kernel
theorem dX9_init_108 : decode cX9_init 108 = .ok (.aload_n 0, 1) := by decide +kernel
theorem dX9_init_109 : decode cX9_init 109 = .ok (.bipush 16, 2) := by decide +kernel
theorem dX9_init_111 : decode cX9_init 111 = .ok (.newarray .int, 2) := by decide +kernel
theorem dX9_init_113 : decode cX9_init 113 = .ok (.putfield 50, 3) := by decide +kernel
theorem dX9_init_116 : decode cX9_init 116 = .ok (.return_, 1) := by decide +kernel
theorem dX9_in_0 : decode cX9_in 0 = .ok (.lload_n 0, 1) := by decide +kernel
theorem dX9_in_1 : decode cX9_in 1 = .ok (.lload_n 2, 1) := by decide +kernel
theorem dX9_in_2 : decode cX9_in 2 = .ok (.lcmp, 1) := by decide +kernel
theorem dX9_in_3 : decode cX9_in 3 = .ok (.ifCond .lt 14, 3) := by decide +kernel
theorem dX9_in_6 : decode cX9_in 6 = .ok (.lload_n 0, 1) := by decide +kernel
theorem dX9_in_7 : decode cX9_in 7 = .ok (.lload 4, 2) := by decide +kernel
theorem dX9_in_9 : decode cX9_in 9 = .ok (.lcmp, 1) := by decide +kernel
theorem dX9_in_10 : decode cX9_in 10 = .ok (.ifCond .gt 7, 3) := by decide +kernel
theorem dX9_in_13 : decode cX9_in 13 = .ok (.iconst 1, 1) := by decide +kernel
theorem dX9_in_14 : decode cX9_in 14 = .ok (.goto 4, 3) := by decide +kernel
theorem dX9_in_17 : decode cX9_in 17 = .ok (.iconst 0, 1) := by decide +kernel
theorem dX9_in_18 : decode cX9_in 18 = .ok (.ireturn, 1) := by decide +kernel
theorem dX9_has_0 : decode cX9_has 0 = .ok (.iload_n 0, 1) := by decide +kernel
theorem dX9_has_1 : decode cX9_has 1 = .ok (.iload_n 1, 1) := by decide +kernel
theorem dX9_has_2 : decode cX9_has 2 = .ok (.ishr, 1) := by decide +kernel
theorem dX9_has_3 : decode cX9_has 3 = .ok (.iconst 1, 1) := by decide +kernel
theorem dX9_has_4 : decode cX9_has 4 = .ok (.iand, 1) := by decide +kernel
theorem dX9_has_5 : decode cX9_has 5 = .ok (.iconst 1, 1) := by decide +kernel
theorem dX9_has_6 : decode cX9_has 6 = .ok (.if_icmp .ne 7, 3) := by decide +kernel
theorem dX9_has_9 : decode cX9_has 9 = .ok (.iconst 1, 1) := by decide +kernel
theorem dX9_has_10 : decode cX9_has 10 = .ok (.goto 4, 3) := by decide +kernel
theorem dX9_has_13 : decode cX9_has 13 = .ok (.iconst 0, 1) := by decide +kernel
theorem dX9_has_14 : decode cX9_has 14 = .ok (.ireturn, 1) := by decide +kernel
theorem dX9_many_0 : decode cX9_many 0 = .ok (.iconst 0, 1) := by decide +kernel
theorem dX9_many_1 : decode cX9_many 1 = .ok (.istore_n 1, 1) := by decide +kernel
theorem dX9_many_2 : decode cX9_many 2 = .ok (.iconst 0, 1) := by decide +kernel
theorem dX9_many_3 : decode cX9_many 3 = .ok (.istore_n 2, 1) := by decide +kernel
theorem dX9_many_4 : decode cX9_many 4 = .ok (.iload_n 2, 1) := by decide +kernel
theorem dX9_many_5 : decode cX9_many 5 = .ok (.bipush 8, 2) := by decide +kernel
theorem dX9_many_7 : decode cX9_many 7 = .ok (.if_icmp .ge 17, 3) := by decide +kernel
theorem dX9_many_10 : decode cX9_many 10 = .ok (.iload_n 1, 1) := by decide +kernel
theorem dX9_many_11 : decode cX9_many 11 = .ok (.iload_n 0, 1) := by decide +kernel
theorem dX9_many_12 : decode cX9_many 12 = .ok (.iload_n 2, 1) := by decide +kernel
theorem dX9_many_13 : decode cX9_many 13 = .ok (.ishr, 1) := by decide +kernel
theorem dX9_many_14 : decode cX9_many 14 = .ok (.iconst 1, 1) := by decide +kernel
theorem dX9_many_15 : decode cX9_many 15 = .ok (.iand, 1) := by decide +kernel
theorem dX9_many_16 : decode cX9_many 16 = .ok (.iadd, 1) := by decide +kernel
theorem dX9_many_17 : decode cX9_many 17 = .ok (.istore_n 1, 1) := by decide +kernel
theorem dX9_many_18 : decode cX9_many 18 = .ok (.iinc 2 1, 3) := by decide +kernel
theorem dX9_many_21 : decode cX9_many 21 = .ok (.goto (-17), 3) := by decide +kernel
theorem dX9_many_24 : decode cX9_many 24 = .ok (.iload_n 1, 1) := by decide +kernel
theorem dX9_many_25 : decode cX9_many 25 = .ok (.ireturn, 1) := by decide +kernel
theorem dX9_noEnvoy_0 : decode cX9_noEnvoy 0 = .ok (.iload_n 1, 1) := by decide +kernel
theorem dX9_noEnvoy_1 : decode cX9_noEnvoy 1 = .ok (.i2l, 1) := by decide +kernel
theorem dX9_noEnvoy_2 : decode cX9_noEnvoy 2 = .ok (.lconst 0, 1) := by decide +kernel
theorem dX9_noEnvoy_3 : decode cX9_noEnvoy 3 = .ok (.aload_n 0, 1) := by decide +kernel
theorem dX9_noEnvoy_4 : decode cX9_noEnvoy 4 = .ok (.getfield 57, 3) := by decide +kernel
theorem dX9_noEnvoy_7 : decode cX9_noEnvoy 7 = .ok (.iconst 1, 1) := by decide +kernel
theorem dX9_noEnvoy_8 : decode cX9_noEnvoy 8 = .ok (.isub, 1) := by decide +kernel
theorem dX9_noEnvoy_9 : decode cX9_noEnvoy 9 = .ok (.i2l, 1) := by decide +kernel
theorem dX9_noEnvoy_10 : decode cX9_noEnvoy 10 = .ok (.invokestatic 60, 3) := by decide +kernel
theorem dX9_noEnvoy_13 : decode cX9_noEnvoy 13 = .ok (.ifCond .ne 7, 3) := by decide +kernel
theorem dX9_noEnvoy_16 : decode cX9_noEnvoy 16 = .ok (.iconst 1, 1) := by decide +kernel
theorem dX9_noEnvoy_17 : decode cX9_noEnvoy 17 = .ok (.goto 4, 3) := by decide +kernel
theorem dX9_noEnvoy_20 : decode cX9_noEnvoy 20 = .ok (.iconst 0, 1) := by decide +kernel
theorem dX9_noEnvoy_21 : decode cX9_noEnvoy 21 = .ok (.ireturn, 1) := by decide +kernel
theorem dX9_noClause_0 : decode cX9_noClause 0 = .ok (.iload_n 1, 1) := by decide +kernel
theorem dX9_noClause_1 : decode cX9_noClause 1 = .ok (.i2l, 1) := by decide +kernel
theorem dX9_noClause_2 : decode cX9_noClause 2 = .ok (.lconst 0, 1) := by decide +kernel
theorem dX9_noClause_3 : decode cX9_noClause 3 = .ok (.aload_n 0, 1) := by decide +kernel
theorem dX9_noClause_4 : decode cX9_noClause 4 = .ok (.getfield 64, 3) := by decide +kernel
theorem dX9_noClause_7 : decode cX9_noClause 7 = .ok (.iconst 1, 1) := by decide +kernel
theorem dX9_noClause_8 : decode cX9_noClause 8 = .ok (.isub, 1) := by decide +kernel
theorem dX9_noClause_9 : decode cX9_noClause 9 = .ok (.i2l, 1) := by decide +kernel
theorem dX9_noClause_10 : decode cX9_noClause 10 = .ok (.invokestatic 60, 3) := by decide +kernel
theorem dX9_noClause_13 : decode cX9_noClause 13 = .ok (.ifCond .ne 7, 3) := by decide +kernel
theorem dX9_noClause_16 : decode cX9_noClause 16 = .ok (.iconst 1, 1) := by decide +kernel
theorem dX9_noClause_17 : decode cX9_noClause 17 = .ok (.goto 4, 3) := by decide +kernel
theorem dX9_noClause_20 : decode cX9_noClause 20 = .ok (.iconst 0, 1) := by decide +kernel
theorem dX9_noClause_21 : decode cX9_noClause 21 = .ok (.ireturn, 1) := by decide +kernel
theorem dX9_write_0 : decode cX9_write 0 = .ok (.aload_n 0, 1) := by decide +kernel
theorem dX9_write_1 : decode cX9_write 1 = .ok (.iconst 0, 1) := by decide +kernel
theorem dX9_write_2 : decode cX9_write 2 = .ok (.putfield 53, 3) := by decide +kernel
theorem dX9_write_5 : decode cX9_write 5 = .ok (.iload_n 1, 1) := by decide +kernel
theorem dX9_write_6 : decode cX9_write 6 = .ok (.i2l, 1) := by decide +kernel
theorem dX9_write_7 : decode cX9_write 7 = .ok (.lconst 0, 1) := by decide +kernel
theorem dX9_write_8 : decode cX9_write 8 = .ok (.ldc2_w 67, 3) := by decide +kernel
theorem dX9_write_11 : decode cX9_write 11 = .ok (.invokestatic 60, 3) := by decide +kernel
theorem dX9_write_14 : decode cX9_write 14 = .ok (.ifCond .ne 6, 3) := by decide +kernel
theorem dX9_write_17 : decode cX9_write 17 = .ok (.bipush (-2), 2) := by decide +kernel
theorem dX9_write_19 : decode cX9_write 19 = .ok (.ireturn, 1) := by decide +kernel
theorem dX9_write_20 : decode cX9_write 20 = .ok (.aload_n 0, 1) := by decide +kernel
theorem dX9_write_21 : decode cX9_write 21 = .ok (.getfield 69, 3) := by decide +kernel
theorem dX9_write_24 : decode cX9_write 24 = .ok (.bipush 48, 2) := by decide +kernel
theorem dX9_write_26 : decode cX9_write 26 = .ok (.if_icmp .ne 6, 3) := by decide +kernel
theorem dX9_write_29 : decode cX9_write 29 = .ok (.bipush (-4), 2) := by decide +kernel
theorem dX9_write_31 : decode cX9_write 31 = .ok (.ireturn, 1) := by decide +kernel
theorem dX9_write_32 : decode cX9_write 32 = .ok (.aload_n 0, 1) := by decide +kernel
theorem dX9_write_33 : decode cX9_write 33 = .ok (.getfield 7, 3) := by decide +kernel
theorem dX9_write_36 : decode cX9_write 36 = .ok (.aload_n 0, 1) := by decide +kernel
theorem dX9_write_37 : decode cX9_write 37 = .ok (.getfield 69, 3) := by decide +kernel
theorem dX9_write_40 : decode cX9_write 40 = .ok (.iload_n 1, 1) := by decide +kernel
theorem dX9_write_41 : decode cX9_write 41 = .ok (.iastore, 1) := by decide +kernel
theorem dX9_write_42 : decode cX9_write 42 = .ok (.aload_n 0, 1) := by decide +kernel
theorem dX9_write_43 : decode cX9_write 43 = .ok (.dup, 1) := by decide +kernel
theorem dX9_write_44 : decode cX9_write 44 = .ok (.getfield 69, 3) := by decide +kernel
theorem dX9_write_47 : decode cX9_write 47 = .ok (.iconst 1, 1) := by decide +kernel
theorem dX9_write_48 : decode cX9_write 48 = .ok (.iadd, 1) := by decide +kernel
theorem dX9_write_49 : decode cX9_write 49 = .ok (.putfield 69, 3) := by decide +kernel
theorem dX9_write_52 : decode cX9_write 52 = .ok (.aload_n 0, 1) := by decide +kernel
theorem dX9_write_53 : decode cX9_write 53 = .ok (.getfield 69, 3) := by decide +kernel
theorem dX9_write_56 : decode cX9_write 56 = .ok (.ireturn, 1) := by decide +kernel
theorem dX9_wipe_0 : decode cX9_wipe 0 = .ok (.aload_n 0, 1) := by decide +kernel
theorem dX9_wipe_1 : decode cX9_wipe 1 = .ok (.iconst 0, 1) := by decide +kernel
theorem dX9_wipe_2 : decode cX9_wipe 2 = .ok (.putfield 53, 3) := by decide +kernel
theorem dX9_wipe_5 : decode cX9_wipe 5 = .ok (.aload_n 0, 1) := by decide +kernel
theorem dX9_wipe_6 : decode cX9_wipe 6 = .ok (.getfield 69, 3) := by decide +kernel
theorem dX9_wipe_9 : decode cX9_wipe 9 = .ok (.istore_n 1, 1) := by decide +kernel
theorem dX9_wipe_10 : decode cX9_wipe 10 = .ok (.aload_n 0, 1) := by decide +kernel
theorem dX9_wipe_11 : decode cX9_wipe 11 = .ok (.iconst 0, 1) := by decide +kernel
theorem dX9_wipe_12 : decode cX9_wipe 12 = .ok (.putfield 69, 3) := by decide +kernel
theorem dX9_wipe_15 : decode cX9_wipe 15 = .ok (.iload_n 1, 1) := by decide +kernel
theorem dX9_wipe_16 : decode cX9_wipe 16 = .ok (.ireturn, 1) := by decide +kernel
theorem dX9_figure_0 : decode cX9_figure 0 = .ok (.aload_n 0, 1) := by decide +kernel
theorem dX9_figure_1 : decode cX9_figure 1 = .ok (.getfield 72, 3) := by decide +kernel
theorem dX9_figure_4 : decode cX9_figure 4 = .ok (.aload_n 0, 1) := by decide +kernel
theorem dX9_figure_5 : decode cX9_figure 5 = .ok (.getfield 69, 3) := by decide +kernel
theorem dX9_figure_8 : decode cX9_figure 8 = .ok (.if_icmp .eq 26, 3) := by decide +kernel
theorem dX9_figure_11 : decode cX9_figure 11 = .ok (.aload_n 0, 1) := by decide +kernel
theorem dX9_figure_12 : decode cX9_figure 12 = .ok (.getfield 7, 3) := by decide +kernel
theorem dX9_figure_15 : decode cX9_figure 15 = .ok (.aload_n 0, 1) := by decide +kernel
theorem dX9_figure_16 : decode cX9_figure 16 = .ok (.getfield 72, 3) := by decide +kernel
theorem dX9_figure_19 : decode cX9_figure 19 = .ok (.iaload, 1) := by decide +kernel
theorem dX9_figure_20 : decode cX9_figure 20 = .ok (.bipush 48, 2) := by decide +kernel
theorem dX9_figure_22 : decode cX9_figure 22 = .ok (.isub, 1) := by decide +kernel
theorem dX9_figure_23 : decode cX9_figure 23 = .ok (.i2l, 1) := by decide +kernel
theorem dX9_figure_24 : decode cX9_figure 24 = .ok (.iload_n 1, 1) := by decide +kernel
theorem dX9_figure_25 : decode cX9_figure 25 = .ok (.i2l, 1) := by decide +kernel
theorem dX9_figure_26 : decode cX9_figure 26 = .ok (.iload_n 2, 1) := by decide +kernel
theorem dX9_figure_27 : decode cX9_figure 27 = .ok (.i2l, 1) := by decide +kernel
theorem dX9_figure_28 : decode cX9_figure 28 = .ok (.invokestatic 60, 3) := by decide +kernel
theorem dX9_figure_31 : decode cX9_figure 31 = .ok (.ifCond .ne 6, 3) := by decide +kernel
theorem dX9_figure_34 : decode cX9_figure 34 = .ok (.bipush (-9), 2) := by decide +kernel
theorem dX9_figure_36 : decode cX9_figure 36 = .ok (.ireturn, 1) := by decide +kernel
theorem dX9_figure_37 : decode cX9_figure 37 = .ok (.aload_n 0, 1) := by decide +kernel
theorem dX9_figure_38 : decode cX9_figure 38 = .ok (.dup, 1) := by decide +kernel
theorem dX9_figure_39 : decode cX9_figure 39 = .ok (.getfield 72, 3) := by decide +kernel
theorem dX9_figure_42 : decode cX9_figure 42 = .ok (.iconst 1, 1) := by decide +kernel
theorem dX9_figure_43 : decode cX9_figure 43 = .ok (.iadd, 1) := by decide +kernel
theorem dX9_figure_44 : decode cX9_figure 44 = .ok (.putfield 72, 3) := by decide +kernel
theorem dX9_figure_47 : decode cX9_figure 47 = .ok (.aload_n 0, 1) := by decide +kernel
theorem dX9_figure_48 : decode cX9_figure 48 = .ok (.getfield 7, 3) := by decide +kernel
theorem dX9_figure_51 : decode cX9_figure 51 = .ok (.aload_n 0, 1) := by decide +kernel
theorem dX9_figure_52 : decode cX9_figure 52 = .ok (.getfield 72, 3) := by decide +kernel
theorem dX9_figure_55 : decode cX9_figure 55 = .ok (.iconst 1, 1) := by decide +kernel
theorem dX9_figure_56 : decode cX9_figure 56 = .ok (.isub, 1) := by decide +kernel
theorem dX9_figure_57 : decode cX9_figure 57 = .ok (.iaload, 1) := by decide +kernel
theorem dX9_figure_58 : decode cX9_figure 58 = .ok (.bipush 48, 2) := by decide +kernel
theorem dX9_figure_60 : decode cX9_figure 60 = .ok (.isub, 1) := by decide +kernel
theorem dX9_figure_61 : decode cX9_figure 61 = .ok (.ireturn, 1) := by decide +kernel
theorem dX9_readEnvoy_0 : decode cX9_readEnvoy 0 = .ok (.aload_n 0, 1) := by decide +kernel
theorem dX9_readEnvoy_1 : decode cX9_readEnvoy 1 = .ok (.iconst 0, 1) := by decide +kernel
theorem dX9_readEnvoy_2 : decode cX9_readEnvoy 2 = .ok (.bipush 9, 2) := by decide +kernel
theorem dX9_readEnvoy_4 : decode cX9_readEnvoy 4 = .ok (.invokevirtual 75, 3) := by decide +kernel
theorem dX9_readEnvoy_7 : decode cX9_readEnvoy 7 = .ok (.istore_n 1, 1) := by decide +kernel
theorem dX9_readEnvoy_8 : decode cX9_readEnvoy 8 = .ok (.iload_n 1, 1) := by decide +kernel
theorem dX9_readEnvoy_9 : decode cX9_readEnvoy 9 = .ok (.bipush (-9), 2) := by decide +kernel
theorem dX9_readEnvoy_11 : decode cX9_readEnvoy 11 = .ok (.if_icmp .ne 8, 3) := by decide +kernel
theorem dX9_readEnvoy_14 : decode cX9_readEnvoy 14 = .ok (.bipush (-9), 2) := by decide +kernel
theorem dX9_readEnvoy_16 : decode cX9_readEnvoy 16 = .ok (.goto 10, 3) := by decide +kernel
theorem dX9_readEnvoy_19 : decode cX9_readEnvoy 19 = .ok (.aload_n 0, 1) := by decide +kernel
theorem dX9_readEnvoy_20 : decode cX9_readEnvoy 20 = .ok (.iconst 1, 1) := by decide +kernel
theorem dX9_readEnvoy_21 : decode cX9_readEnvoy 21 = .ok (.bipush 9, 2) := by decide +kernel
theorem dX9_readEnvoy_23 : decode cX9_readEnvoy 23 = .ok (.invokevirtual 75, 3) := by decide +kernel
theorem dX9_readEnvoy_26 : decode cX9_readEnvoy 26 = .ok (.istore_n 2, 1) := by decide +kernel
theorem dX9_readEnvoy_27 : decode cX9_readEnvoy 27 = .ok (.iload_n 2, 1) := by decide +kernel
theorem dX9_readEnvoy_28 : decode cX9_readEnvoy 28 = .ok (.bipush (-9), 2) := by decide +kernel
theorem dX9_readEnvoy_30 : decode cX9_readEnvoy 30 = .ok (.if_icmp .ne 8, 3) := by decide +kernel
theorem dX9_readEnvoy_33 : decode cX9_readEnvoy 33 = .ok (.bipush (-9), 2) := by decide +kernel
theorem dX9_readEnvoy_35 : decode cX9_readEnvoy 35 = .ok (.goto 9, 3) := by decide +kernel
theorem dX9_readEnvoy_38 : decode cX9_readEnvoy 38 = .ok (.aload_n 0, 1) := by decide +kernel
theorem dX9_readEnvoy_39 : decode cX9_readEnvoy 39 = .ok (.iconst 0, 1) := by decide +kernel
theorem dX9_readEnvoy_40 : decode cX9_readEnvoy 40 = .ok (.iconst 3, 1) := by decide +kernel
theorem dX9_readEnvoy_41 : decode cX9_readEnvoy 41 = .ok (.invokevirtual 75, 3) := by decide +kernel
theorem dX9_readEnvoy_44 : decode cX9_readEnvoy 44 = .ok (.istore_n 3, 1) := by decide +kernel
theorem dX9_readEnvoy_45 : decode cX9_readEnvoy 45 = .ok (.iload_n 3, 1) := by decide +kernel
theorem dX9_readEnvoy_46 : decode cX9_readEnvoy 46 = .ok (.bipush (-9), 2) := by decide +kernel
theorem dX9_readEnvoy_48 : decode cX9_readEnvoy 48 = .ok (.if_icmp .ne 5, 3) := by decide +kernel
theorem dX9_readEnvoy_51 : decode cX9_readEnvoy 51 = .ok (.iconst 0, 1) := by decide +kernel
theorem dX9_readEnvoy_52 : decode cX9_readEnvoy 52 = .ok (.ireturn, 1) := by decide +kernel
theorem dX9_readEnvoy_53 : decode cX9_readEnvoy 53 = .ok (.aload_n 0, 1) := by decide +kernel
theorem dX9_readEnvoy_54 : decode cX9_readEnvoy 54 = .ok (.getfield 19, 3) := by decide +kernel
theorem dX9_readEnvoy_57 : decode cX9_readEnvoy 57 = .ok (.iconst 3, 1) := by decide +kernel
theorem dX9_readEnvoy_58 : decode cX9_readEnvoy 58 = .ok (.aload_n 0, 1) := by decide +kernel
theorem dX9_readEnvoy_59 : decode cX9_readEnvoy 59 = .ok (.getfield 79, 3) := by decide +kernel
theorem dX9_readEnvoy_62 : decode cX9_readEnvoy 62 = .ok (.imul, 1) := by decide +kernel
theorem dX9_readEnvoy_63 : decode cX9_readEnvoy 63 = .ok (.iload_n 1, 1) := by decide +kernel
theorem dX9_readEnvoy_64 : decode cX9_readEnvoy 64 = .ok (.iastore, 1) := by decide +kernel
theorem dX9_readEnvoy_65 : decode cX9_readEnvoy 65 = .ok (.aload_n 0, 1) := by decide +kernel
theorem dX9_readEnvoy_66 : decode cX9_readEnvoy 66 = .ok (.getfield 19, 3) := by decide +kernel
theorem dX9_readEnvoy_69 : decode cX9_readEnvoy 69 = .ok (.iconst 3, 1) := by decide +kernel
theorem dX9_readEnvoy_70 : decode cX9_readEnvoy 70 = .ok (.aload_n 0, 1) := by decide +kernel
theorem dX9_readEnvoy_71 : decode cX9_readEnvoy 71 = .ok (.getfield 79, 3) := by decide +kernel
theorem dX9_readEnvoy_74 : decode cX9_readEnvoy 74 = .ok (.imul, 1) := by decide +kernel
theorem dX9_readEnvoy_75 : decode cX9_readEnvoy 75 = .ok (.iconst 1, 1) := by decide +kernel
theorem dX9_readEnvoy_76 : decode cX9_readEnvoy 76 = .ok (.iadd, 1) := by decide +kernel
theorem dX9_readEnvoy_77 : decode cX9_readEnvoy 77 = .ok (.iload_n 2, 1) := by decide +kernel
theorem dX9_readEnvoy_78 : decode cX9_readEnvoy 78 = .ok (.iastore, 1) := by decide +kernel
theorem dX9_readEnvoy_79 : decode cX9_readEnvoy 79 = .ok (.aload_n 0, 1) := by decide +kernel
theorem dX9_readEnvoy_80 : decode cX9_readEnvoy 80 = .ok (.getfield 19, 3) := by decide +kernel
theorem dX9_readEnvoy_83 : decode cX9_readEnvoy 83 = .ok (.iconst 3, 1) := by decide +kernel
theorem dX9_readEnvoy_84 : decode cX9_readEnvoy 84 = .ok (.aload_n 0, 1) := by decide +kernel
theorem dX9_readEnvoy_85 : decode cX9_readEnvoy 85 = .ok (.getfield 79, 3) := by decide +kernel
theorem dX9_readEnvoy_88 : decode cX9_readEnvoy 88 = .ok (.imul, 1) := by decide +kernel
theorem dX9_readEnvoy_89 : decode cX9_readEnvoy 89 = .ok (.iconst 2, 1) := by decide +kernel
theorem dX9_readEnvoy_90 : decode cX9_readEnvoy 90 = .ok (.iadd, 1) := by decide +kernel
theorem dX9_readEnvoy_91 : decode cX9_readEnvoy 91 = .ok (.iload_n 3, 1) := by decide +kernel
theorem dX9_readEnvoy_92 : decode cX9_readEnvoy 92 = .ok (.iastore, 1) := by decide +kernel
theorem dX9_readEnvoy_93 : decode cX9_readEnvoy 93 = .ok (.aload_n 0, 1) := by decide +kernel
theorem dX9_readEnvoy_94 : decode cX9_readEnvoy 94 = .ok (.dup, 1) := by decide +kernel
theorem dX9_readEnvoy_95 : decode cX9_readEnvoy 95 = .ok (.getfield 79, 3) := by decide +kernel
theorem dX9_readEnvoy_98 : decode cX9_readEnvoy 98 = .ok (.iconst 1, 1) := by decide +kernel
theorem dX9_readEnvoy_99 : decode cX9_readEnvoy 99 = .ok (.iadd, 1) := by decide +kernel
theorem dX9_readEnvoy_100 : decode cX9_readEnvoy 100 = .ok (.putfield 79, 3) := by decide +kernel
theorem dX9_readEnvoy_103 : decode cX9_readEnvoy 103 = .ok (.iconst 1, 1) := by decide +kernel
theorem dX9_readEnvoy_104 : decode cX9_readEnvoy 104 = .ok (.ireturn, 1) := by decide +kernel
theorem dX9_readClause_0 : decode cX9_readClause 0 = .ok (.aload_n 0, 1) := by decide +kernel
theorem dX9_readClause_1 : decode cX9_readClause 1 = .ok (.iconst 1, 1) := by decide +kernel
theorem dX9_readClause_2 : decode cX9_readClause 2 = .ok (.iconst 4, 1) := by decide +kernel
theorem dX9_readClause_3 : decode cX9_readClause 3 = .ok (.invokevirtual 75, 3) := by decide +kernel
theorem dX9_readClause_6 : decode cX9_readClause 6 = .ok (.istore_n 1, 1) := by decide +kernel
theorem dX9_readClause_7 : decode cX9_readClause 7 = .ok (.iload_n 1, 1) := by decide +kernel
theorem dX9_readClause_8 : decode cX9_readClause 8 = .ok (.bipush (-9), 2) := by decide +kernel
theorem dX9_readClause_10 : decode cX9_readClause 10 = .ok (.if_icmp .ne 8, 3) := by decide +kernel
theorem dX9_readClause_13 : decode cX9_readClause 13 = .ok (.bipush (-9), 2) := by decide +kernel
theorem dX9_readClause_15 : decode cX9_readClause 15 = .ok (.goto 10, 3) := by decide +kernel
theorem dX9_readClause_18 : decode cX9_readClause 18 = .ok (.aload_n 0, 1) := by decide +kernel
theorem dX9_readClause_19 : decode cX9_readClause 19 = .ok (.iconst 0, 1) := by decide +kernel
theorem dX9_readClause_20 : decode cX9_readClause 20 = .ok (.bipush 9, 2) := by decide +kernel
theorem dX9_readClause_22 : decode cX9_readClause 22 = .ok (.invokevirtual 75, 3) := by decide +kernel
theorem dX9_readClause_25 : decode cX9_readClause 25 = .ok (.istore_n 2, 1) := by decide +kernel
theorem dX9_readClause_26 : decode cX9_readClause 26 = .ok (.iload_n 2, 1) := by decide +kernel
theorem dX9_readClause_27 : decode cX9_readClause 27 = .ok (.bipush (-9), 2) := by decide +kernel
theorem dX9_readClause_29 : decode cX9_readClause 29 = .ok (.if_icmp .ne 8, 3) := by decide +kernel
theorem dX9_readClause_32 : decode cX9_readClause 32 = .ok (.bipush (-9), 2) := by decide +kernel
theorem dX9_readClause_34 : decode cX9_readClause 34 = .ok (.goto 14, 3) := by decide +kernel
theorem dX9_readClause_37 : decode cX9_readClause 37 = .ok (.aload_n 0, 1) := by decide +kernel
theorem dX9_readClause_38 : decode cX9_readClause 38 = .ok (.iconst 0, 1) := by decide +kernel
theorem dX9_readClause_39 : decode cX9_readClause 39 = .ok (.aload_n 0, 1) := by decide +kernel
theorem dX9_readClause_40 : decode cX9_readClause 40 = .ok (.getfield 79, 3) := by decide +kernel
theorem dX9_readClause_43 : decode cX9_readClause 43 = .ok (.iconst 1, 1) := by decide +kernel
theorem dX9_readClause_44 : decode cX9_readClause 44 = .ok (.isub, 1) := by decide +kernel
theorem dX9_readClause_45 : decode cX9_readClause 45 = .ok (.invokevirtual 75, 3) := by decide +kernel
theorem dX9_readClause_48 : decode cX9_readClause 48 = .ok (.istore_n 3, 1) := by decide +kernel
theorem dX9_readClause_49 : decode cX9_readClause 49 = .ok (.iload_n 3, 1) := by decide +kernel
theorem dX9_readClause_50 : decode cX9_readClause 50 = .ok (.bipush (-9), 2) := by decide +kernel
theorem dX9_readClause_52 : decode cX9_readClause 52 = .ok (.if_icmp .ne 5, 3) := by decide +kernel
theorem dX9_readClause_55 : decode cX9_readClause 55 = .ok (.iconst 0, 1) := by decide +kernel
theorem dX9_readClause_56 : decode cX9_readClause 56 = .ok (.ireturn, 1) := by decide +kernel
theorem dX9_readClause_57 : decode cX9_readClause 57 = .ok (.aload_n 0, 1) := by decide +kernel
theorem dX9_readClause_58 : decode cX9_readClause 58 = .ok (.getfield 22, 3) := by decide +kernel
theorem dX9_readClause_61 : decode cX9_readClause 61 = .ok (.iconst 3, 1) := by decide +kernel
theorem dX9_readClause_62 : decode cX9_readClause 62 = .ok (.aload_n 0, 1) := by decide +kernel
theorem dX9_readClause_63 : decode cX9_readClause 63 = .ok (.getfield 82, 3) := by decide +kernel
theorem dX9_readClause_66 : decode cX9_readClause 66 = .ok (.imul, 1) := by decide +kernel
theorem dX9_readClause_67 : decode cX9_readClause 67 = .ok (.iload_n 1, 1) := by decide +kernel
theorem dX9_readClause_68 : decode cX9_readClause 68 = .ok (.iastore, 1) := by decide +kernel
theorem dX9_readClause_69 : decode cX9_readClause 69 = .ok (.aload_n 0, 1) := by decide +kernel
theorem dX9_readClause_70 : decode cX9_readClause 70 = .ok (.getfield 22, 3) := by decide +kernel
theorem dX9_readClause_73 : decode cX9_readClause 73 = .ok (.iconst 3, 1) := by decide +kernel
theorem dX9_readClause_74 : decode cX9_readClause 74 = .ok (.aload_n 0, 1) := by decide +kernel
theorem dX9_readClause_75 : decode cX9_readClause 75 = .ok (.getfield 82, 3) := by decide +kernel
theorem dX9_readClause_78 : decode cX9_readClause 78 = .ok (.imul, 1) := by decide +kernel
theorem dX9_readClause_79 : decode cX9_readClause 79 = .ok (.iconst 1, 1) := by decide +kernel
theorem dX9_readClause_80 : decode cX9_readClause 80 = .ok (.iadd, 1) := by decide +kernel
theorem dX9_readClause_81 : decode cX9_readClause 81 = .ok (.iload_n 2, 1) := by decide +kernel
theorem dX9_readClause_82 : decode cX9_readClause 82 = .ok (.iastore, 1) := by decide +kernel
theorem dX9_readClause_83 : decode cX9_readClause 83 = .ok (.aload_n 0, 1) := by decide +kernel
theorem dX9_readClause_84 : decode cX9_readClause 84 = .ok (.getfield 22, 3) := by decide +kernel
end
section
theorem dX9_readClause_87 : decode cX9_readClause 87 = .ok (.iconst 3, 1) := by decide +kernel
theorem dX9_readClause_88 : decode cX9_readClause 88 = .ok (.aload_n 0, 1) := by decide +kernel
theorem dX9_readClause_89 : decode cX9_readClause 89 = .ok (.getfield 82, 3) := by decide +kernel
theorem dX9_readClause_92 : decode cX9_readClause 92 = .ok (.imul, 1) := by decide +kernel
theorem dX9_readClause_93 : decode cX9_readClause 93 = .ok (.iconst 2, 1) := by decide +kernel
theorem dX9_readClause_94 : decode cX9_readClause 94 = .ok (.iadd, 1) := by decide +kernel
theorem dX9_readClause_95 : decode cX9_readClause 95 = .ok (.iload_n 3, 1) := by decide +kernel
theorem dX9_readClause_96 : decode cX9_readClause 96 = .ok (.iastore, 1) := by decide +kernel
theorem dX9_readClause_97 : decode cX9_readClause 97 = .ok (.aload_n 0, 1) := by decide +kernel
theorem dX9_readClause_98 : decode cX9_readClause 98 = .ok (.dup, 1) := by decide +kernel
theorem dX9_readClause_99 : decode cX9_readClause 99 = .ok (.getfield 82, 3) := by decide +kernel
theorem dX9_readClause_102 : decode cX9_readClause 102 = .ok (.iconst 1, 1) := by decide +kernel
theorem dX9_readClause_103 : decode cX9_readClause 103 = .ok (.iadd, 1) := by decide +kernel
theorem dX9_readClause_104 : decode cX9_readClause 104 = .ok (.putfield 82, 3) := by decide +kernel
theorem dX9_readClause_107 : decode cX9_readClause 107 = .ok (.iconst 1, 1) := by decide +kernel
theorem dX9_readClause_108 : decode cX9_readClause 108 = .ok (.ireturn, 1) := by decide +kernel
theorem dX9_readPart_0 : decode cX9_readPart 0 = .ok (.aload_n 0, 1) := by decide +kernel
theorem dX9_readPart_1 : decode cX9_readPart 1 = .ok (.getfield 7, 3) := by decide +kernel
theorem dX9_readPart_4 : decode cX9_readPart 4 = .ok (.aload_n 0, 1) := by decide +kernel
theorem dX9_readPart_5 : decode cX9_readPart 5 = .ok (.getfield 72, 3) := by decide +kernel
theorem dX9_readPart_8 : decode cX9_readPart 8 = .ok (.iaload, 1) := by decide +kernel
theorem dX9_readPart_9 : decode cX9_readPart 9 = .ok (.istore_n 1, 1) := by decide +kernel
theorem dX9_readPart_10 : decode cX9_readPart 10 = .ok (.aload_n 0, 1) := by decide +kernel
theorem dX9_readPart_11 : decode cX9_readPart 11 = .ok (.dup, 1) := by decide +kernel
theorem dX9_readPart_12 : decode cX9_readPart 12 = .ok (.getfield 72, 3) := by decide +kernel
theorem dX9_readPart_15 : decode cX9_readPart 15 = .ok (.iconst 1, 1) := by decide +kernel
theorem dX9_readPart_16 : decode cX9_readPart 16 = .ok (.iadd, 1) := by decide +kernel
theorem dX9_readPart_17 : decode cX9_readPart 17 = .ok (.putfield 72, 3) := by decide +kernel
theorem dX9_readPart_20 : decode cX9_readPart 20 = .ok (.iload_n 1, 1) := by decide +kernel
theorem dX9_readPart_21 : decode cX9_readPart 21 = .ok (.bipush 69, 2) := by decide +kernel
theorem dX9_readPart_23 : decode cX9_readPart 23 = .ok (.if_icmp .ne 16, 3) := by decide +kernel
theorem dX9_readPart_26 : decode cX9_readPart 26 = .ok (.aload_n 0, 1) := by decide +kernel
theorem dX9_readPart_27 : decode cX9_readPart 27 = .ok (.getfield 79, 3) := by decide +kernel
theorem dX9_readPart_30 : decode cX9_readPart 30 = .ok (.iconst 4, 1) := by decide +kernel
theorem dX9_readPart_31 : decode cX9_readPart 31 = .ok (.if_icmp .ge 8, 3) := by decide +kernel
theorem dX9_readPart_34 : decode cX9_readPart 34 = .ok (.aload_n 0, 1) := by decide +kernel
theorem dX9_readPart_35 : decode cX9_readPart 35 = .ok (.invokevirtual 85, 3) := by decide +kernel
theorem dX9_readPart_38 : decode cX9_readPart 38 = .ok (.ireturn, 1) := by decide +kernel
theorem dX9_readPart_39 : decode cX9_readPart 39 = .ok (.iload_n 1, 1) := by decide +kernel
theorem dX9_readPart_40 : decode cX9_readPart 40 = .ok (.bipush 67, 2) := by decide +kernel
theorem dX9_readPart_42 : decode cX9_readPart 42 = .ok (.if_icmp .ne 23, 3) := by decide +kernel
theorem dX9_readPart_45 : decode cX9_readPart 45 = .ok (.aload_n 0, 1) := by decide +kernel
theorem dX9_readPart_46 : decode cX9_readPart 46 = .ok (.getfield 79, 3) := by decide +kernel
theorem dX9_readPart_49 : decode cX9_readPart 49 = .ok (.ifCond .le 16, 3) := by decide +kernel
theorem dX9_readPart_52 : decode cX9_readPart 52 = .ok (.aload_n 0, 1) := by decide +kernel
theorem dX9_readPart_53 : decode cX9_readPart 53 = .ok (.getfield 82, 3) := by decide +kernel
theorem dX9_readPart_56 : decode cX9_readPart 56 = .ok (.iconst 5, 1) := by decide +kernel
theorem dX9_readPart_57 : decode cX9_readPart 57 = .ok (.if_icmp .ge 8, 3) := by decide +kernel
theorem dX9_readPart_60 : decode cX9_readPart 60 = .ok (.aload_n 0, 1) := by decide +kernel
theorem dX9_readPart_61 : decode cX9_readPart 61 = .ok (.invokevirtual 88, 3) := by decide +kernel
theorem dX9_readPart_64 : decode cX9_readPart 64 = .ok (.ireturn, 1) := by decide +kernel
theorem dX9_readPart_65 : decode cX9_readPart 65 = .ok (.aload_n 0, 1) := by decide +kernel
theorem dX9_readPart_66 : decode cX9_readPart 66 = .ok (.dup, 1) := by decide +kernel
theorem dX9_readPart_67 : decode cX9_readPart 67 = .ok (.getfield 72, 3) := by decide +kernel
theorem dX9_readPart_70 : decode cX9_readPart 70 = .ok (.iconst 1, 1) := by decide +kernel
theorem dX9_readPart_71 : decode cX9_readPart 71 = .ok (.isub, 1) := by decide +kernel
theorem dX9_readPart_72 : decode cX9_readPart 72 = .ok (.putfield 72, 3) := by decide +kernel
theorem dX9_readPart_75 : decode cX9_readPart 75 = .ok (.iconst 0, 1) := by decide +kernel
theorem dX9_readPart_76 : decode cX9_readPart 76 = .ok (.ireturn, 1) := by decide +kernel
theorem dX9_readTalk_0 : decode cX9_readTalk 0 = .ok (.aload_n 0, 1) := by decide +kernel
theorem dX9_readTalk_1 : decode cX9_readTalk 1 = .ok (.iconst 0, 1) := by decide +kernel
theorem dX9_readTalk_2 : decode cX9_readTalk 2 = .ok (.putfield 72, 3) := by decide +kernel
theorem dX9_readTalk_5 : decode cX9_readTalk 5 = .ok (.aload_n 0, 1) := by decide +kernel
theorem dX9_readTalk_6 : decode cX9_readTalk 6 = .ok (.iconst 0, 1) := by decide +kernel
theorem dX9_readTalk_7 : decode cX9_readTalk 7 = .ok (.putfield 79, 3) := by decide +kernel
theorem dX9_readTalk_10 : decode cX9_readTalk 10 = .ok (.aload_n 0, 1) := by decide +kernel
theorem dX9_readTalk_11 : decode cX9_readTalk 11 = .ok (.iconst 0, 1) := by decide +kernel
theorem dX9_readTalk_12 : decode cX9_readTalk 12 = .ok (.putfield 82, 3) := by decide +kernel
theorem dX9_readTalk_15 : decode cX9_readTalk 15 = .ok (.aload_n 0, 1) := by decide +kernel
theorem dX9_readTalk_16 : decode cX9_readTalk 16 = .ok (.getfield 69, 3) := by decide +kernel
theorem dX9_readTalk_19 : decode cX9_readTalk 19 = .ok (.ifCond .eq 14, 3) := by decide +kernel
theorem dX9_readTalk_22 : decode cX9_readTalk 22 = .ok (.aload_n 0, 1) := by decide +kernel
theorem dX9_readTalk_23 : decode cX9_readTalk 23 = .ok (.getfield 7, 3) := by decide +kernel
theorem dX9_readTalk_26 : decode cX9_readTalk 26 = .ok (.iconst 0, 1) := by decide +kernel
theorem dX9_readTalk_27 : decode cX9_readTalk 27 = .ok (.iaload, 1) := by decide +kernel
theorem dX9_readTalk_28 : decode cX9_readTalk 28 = .ok (.bipush 77, 2) := by decide +kernel
theorem dX9_readTalk_30 : decode cX9_readTalk 30 = .ok (.if_icmp .eq 5, 3) := by decide +kernel
theorem dX9_readTalk_33 : decode cX9_readTalk 33 = .ok (.iconst 0, 1) := by decide +kernel
theorem dX9_readTalk_34 : decode cX9_readTalk 34 = .ok (.ireturn, 1) := by decide +kernel
theorem dX9_readTalk_35 : decode cX9_readTalk 35 = .ok (.aload_n 0, 1) := by decide +kernel
theorem dX9_readTalk_36 : decode cX9_readTalk 36 = .ok (.iconst 1, 1) := by decide +kernel
theorem dX9_readTalk_37 : decode cX9_readTalk 37 = .ok (.putfield 72, 3) := by decide +kernel
theorem dX9_readTalk_40 : decode cX9_readTalk 40 = .ok (.aload_n 0, 1) := by decide +kernel
theorem dX9_readTalk_41 : decode cX9_readTalk 41 = .ok (.aload_n 0, 1) := by decide +kernel
theorem dX9_readTalk_42 : decode cX9_readTalk 42 = .ok (.iconst 0, 1) := by decide +kernel
theorem dX9_readTalk_43 : decode cX9_readTalk 43 = .ok (.bipush 9, 2) := by decide +kernel
theorem dX9_readTalk_45 : decode cX9_readTalk 45 = .ok (.invokevirtual 75, 3) := by decide +kernel
theorem dX9_readTalk_48 : decode cX9_readTalk 48 = .ok (.putfield 90, 3) := by decide +kernel
theorem dX9_readTalk_51 : decode cX9_readTalk 51 = .ok (.aload_n 0, 1) := by decide +kernel
theorem dX9_readTalk_52 : decode cX9_readTalk 52 = .ok (.aload_n 0, 1) := by decide +kernel
theorem dX9_readTalk_53 : decode cX9_readTalk 53 = .ok (.getfield 90, 3) := by decide +kernel
theorem dX9_readTalk_56 : decode cX9_readTalk 56 = .ok (.bipush (-9), 2) := by decide +kernel
theorem dX9_readTalk_58 : decode cX9_readTalk 58 = .ok (.if_icmp .ne 8, 3) := by decide +kernel
theorem dX9_readTalk_61 : decode cX9_readTalk 61 = .ok (.bipush (-9), 2) := by decide +kernel
theorem dX9_readTalk_63 : decode cX9_readTalk 63 = .ok (.goto 10, 3) := by decide +kernel
theorem dX9_readTalk_66 : decode cX9_readTalk 66 = .ok (.aload_n 0, 1) := by decide +kernel
theorem dX9_readTalk_67 : decode cX9_readTalk 67 = .ok (.iconst 0, 1) := by decide +kernel
theorem dX9_readTalk_68 : decode cX9_readTalk 68 = .ok (.bipush 9, 2) := by decide +kernel
theorem dX9_readTalk_70 : decode cX9_readTalk 70 = .ok (.invokevirtual 75, 3) := by decide +kernel
theorem dX9_readTalk_73 : decode cX9_readTalk 73 = .ok (.putfield 93, 3) := by decide +kernel
theorem dX9_readTalk_76 : decode cX9_readTalk 76 = .ok (.aload_n 0, 1) := by decide +kernel
theorem dX9_readTalk_77 : decode cX9_readTalk 77 = .ok (.getfield 93, 3) := by decide +kernel
theorem dX9_readTalk_80 : decode cX9_readTalk 80 = .ok (.bipush (-9), 2) := by decide +kernel
theorem dX9_readTalk_82 : decode cX9_readTalk 82 = .ok (.if_icmp .ne 8, 3) := by decide +kernel
theorem dX9_readTalk_85 : decode cX9_readTalk 85 = .ok (.aload_n 0, 1) := by decide +kernel
theorem dX9_readTalk_86 : decode cX9_readTalk 86 = .ok (.getfield 72, 3) := by decide +kernel
theorem dX9_readTalk_89 : decode cX9_readTalk 89 = .ok (.ireturn, 1) := by decide +kernel
theorem dX9_readTalk_90 : decode cX9_readTalk 90 = .ok (.aload_n 0, 1) := by decide +kernel
theorem dX9_readTalk_91 : decode cX9_readTalk 91 = .ok (.getfield 72, 3) := by decide +kernel
theorem dX9_readTalk_94 : decode cX9_readTalk 94 = .ok (.aload_n 0, 1) := by decide +kernel
theorem dX9_readTalk_95 : decode cX9_readTalk 95 = .ok (.getfield 69, 3) := by decide +kernel
theorem dX9_readTalk_98 : decode cX9_readTalk 98 = .ok (.if_icmp .ge 15, 3) := by decide +kernel
theorem dX9_readTalk_101 : decode cX9_readTalk 101 = .ok (.aload_n 0, 1) := by decide +kernel
theorem dX9_readTalk_102 : decode cX9_readTalk 102 = .ok (.invokevirtual 96, 3) := by decide +kernel
theorem dX9_readTalk_105 : decode cX9_readTalk 105 = .ok (.ifCond .ne (-15), 3) := by decide +kernel
theorem dX9_readTalk_108 : decode cX9_readTalk 108 = .ok (.aload_n 0, 1) := by decide +kernel
theorem dX9_readTalk_109 : decode cX9_readTalk 109 = .ok (.getfield 72, 3) := by decide +kernel
theorem dX9_readTalk_112 : decode cX9_readTalk 112 = .ok (.ireturn, 1) := by decide +kernel
theorem dX9_readTalk_113 : decode cX9_readTalk 113 = .ok (.bipush (-9), 2) := by decide +kernel
theorem dX9_readTalk_115 : decode cX9_readTalk 115 = .ok (.ireturn, 1) := by decide +kernel
theorem dX9_fault_0 : decode cX9_fault 0 = .ok (.aload_n 0, 1) := by decide +kernel
theorem dX9_fault_1 : decode cX9_fault 1 = .ok (.iconst 0, 1) := by decide +kernel
theorem dX9_fault_2 : decode cX9_fault 2 = .ok (.putfield 53, 3) := by decide +kernel
theorem dX9_fault_5 : decode cX9_fault 5 = .ok (.aload_n 0, 1) := by decide +kernel
theorem dX9_fault_6 : decode cX9_fault 6 = .ok (.invokevirtual 99, 3) := by decide +kernel
theorem dX9_fault_9 : decode cX9_fault 9 = .ok (.ireturn, 1) := by decide +kernel
theorem dX9_talk_0 : decode cX9_talk 0 = .ok (.aload_n 0, 1) := by decide +kernel
theorem dX9_talk_1 : decode cX9_talk 1 = .ok (.iconst 0, 1) := by decide +kernel
theorem dX9_talk_2 : decode cX9_talk 2 = .ok (.putfield 53, 3) := by decide +kernel
theorem dX9_talk_5 : decode cX9_talk 5 = .ok (.aload_n 0, 1) := by decide +kernel
theorem dX9_talk_6 : decode cX9_talk 6 = .ok (.invokevirtual 99, 3) := by decide +kernel
theorem dX9_talk_9 : decode cX9_talk 9 = .ok (.bipush (-9), 2) := by decide +kernel
theorem dX9_talk_11 : decode cX9_talk 11 = .ok (.if_icmp .eq 6, 3) := by decide +kernel
theorem dX9_talk_14 : decode cX9_talk 14 = .ok (.bipush (-3), 2) := by decide +kernel
theorem dX9_talk_16 : decode cX9_talk 16 = .ok (.ireturn, 1) := by decide +kernel
theorem dX9_talk_17 : decode cX9_talk 17 = .ok (.aload_n 0, 1) := by decide +kernel
theorem dX9_talk_18 : decode cX9_talk 18 = .ok (.aload_n 0, 1) := by decide +kernel
theorem dX9_talk_19 : decode cX9_talk 19 = .ok (.getfield 79, 3) := by decide +kernel
theorem dX9_talk_22 : decode cX9_talk 22 = .ok (.putfield 57, 3) := by decide +kernel
theorem dX9_talk_25 : decode cX9_talk 25 = .ok (.aload_n 0, 1) := by decide +kernel
theorem dX9_talk_26 : decode cX9_talk 26 = .ok (.aload_n 0, 1) := by decide +kernel
theorem dX9_talk_27 : decode cX9_talk 27 = .ok (.getfield 82, 3) := by decide +kernel
theorem dX9_talk_30 : decode cX9_talk 30 = .ok (.putfield 64, 3) := by decide +kernel
theorem dX9_talk_33 : decode cX9_talk 33 = .ok (.iconst 0, 1) := by decide +kernel
theorem dX9_talk_34 : decode cX9_talk 34 = .ok (.istore_n 1, 1) := by decide +kernel
theorem dX9_talk_35 : decode cX9_talk 35 = .ok (.iload_n 1, 1) := by decide +kernel
theorem dX9_talk_36 : decode cX9_talk 36 = .ok (.iconst 3, 1) := by decide +kernel
theorem dX9_talk_37 : decode cX9_talk 37 = .ok (.aload_n 0, 1) := by decide +kernel
theorem dX9_talk_38 : decode cX9_talk 38 = .ok (.getfield 57, 3) := by decide +kernel
theorem dX9_talk_41 : decode cX9_talk 41 = .ok (.imul, 1) := by decide +kernel
theorem dX9_talk_42 : decode cX9_talk 42 = .ok (.if_icmp .ge 21, 3) := by decide +kernel
theorem dX9_talk_45 : decode cX9_talk 45 = .ok (.aload_n 0, 1) := by decide +kernel
theorem dX9_talk_46 : decode cX9_talk 46 = .ok (.getfield 13, 3) := by decide +kernel
theorem dX9_talk_49 : decode cX9_talk 49 = .ok (.iload_n 1, 1) := by decide +kernel
theorem dX9_talk_50 : decode cX9_talk 50 = .ok (.aload_n 0, 1) := by decide +kernel
theorem dX9_talk_51 : decode cX9_talk 51 = .ok (.getfield 19, 3) := by decide +kernel
theorem dX9_talk_54 : decode cX9_talk 54 = .ok (.iload_n 1, 1) := by decide +kernel
theorem dX9_talk_55 : decode cX9_talk 55 = .ok (.iaload, 1) := by decide +kernel
theorem dX9_talk_56 : decode cX9_talk 56 = .ok (.iastore, 1) := by decide +kernel
theorem dX9_talk_57 : decode cX9_talk 57 = .ok (.iinc 1 1, 3) := by decide +kernel
theorem dX9_talk_60 : decode cX9_talk 60 = .ok (.goto (-25), 3) := by decide +kernel
theorem dX9_talk_63 : decode cX9_talk 63 = .ok (.iconst 0, 1) := by decide +kernel
theorem dX9_talk_64 : decode cX9_talk 64 = .ok (.istore_n 1, 1) := by decide +kernel
theorem dX9_talk_65 : decode cX9_talk 65 = .ok (.iload_n 1, 1) := by decide +kernel
theorem dX9_talk_66 : decode cX9_talk 66 = .ok (.iconst 3, 1) := by decide +kernel
theorem dX9_talk_67 : decode cX9_talk 67 = .ok (.aload_n 0, 1) := by decide +kernel
theorem dX9_talk_68 : decode cX9_talk 68 = .ok (.getfield 64, 3) := by decide +kernel
theorem dX9_talk_71 : decode cX9_talk 71 = .ok (.imul, 1) := by decide +kernel
theorem dX9_talk_72 : decode cX9_talk 72 = .ok (.if_icmp .ge 21, 3) := by decide +kernel
theorem dX9_talk_75 : decode cX9_talk 75 = .ok (.aload_n 0, 1) := by decide +kernel
theorem dX9_talk_76 : decode cX9_talk 76 = .ok (.getfield 16, 3) := by decide +kernel
theorem dX9_talk_79 : decode cX9_talk 79 = .ok (.iload_n 1, 1) := by decide +kernel
theorem dX9_talk_80 : decode cX9_talk 80 = .ok (.aload_n 0, 1) := by decide +kernel
theorem dX9_talk_81 : decode cX9_talk 81 = .ok (.getfield 22, 3) := by decide +kernel
theorem dX9_talk_84 : decode cX9_talk 84 = .ok (.iload_n 1, 1) := by decide +kernel
theorem dX9_talk_85 : decode cX9_talk 85 = .ok (.iaload, 1) := by decide +kernel
theorem dX9_talk_86 : decode cX9_talk 86 = .ok (.iastore, 1) := by decide +kernel
theorem dX9_talk_87 : decode cX9_talk 87 = .ok (.iinc 1 1, 3) := by decide +kernel
theorem dX9_talk_90 : decode cX9_talk 90 = .ok (.goto (-25), 3) := by decide +kernel
theorem dX9_talk_93 : decode cX9_talk 93 = .ok (.iconst 0, 1) := by decide +kernel
theorem dX9_talk_94 : decode cX9_talk 94 = .ok (.istore_n 1, 1) := by decide +kernel
theorem dX9_talk_95 : decode cX9_talk 95 = .ok (.iload_n 1, 1) := by decide +kernel
theorem dX9_talk_96 : decode cX9_talk 96 = .ok (.bipush 10, 2) := by decide +kernel
theorem dX9_talk_98 : decode cX9_talk 98 = .ok (.if_icmp .ge 16, 3) := by decide +kernel
theorem dX9_talk_101 : decode cX9_talk 101 = .ok (.aload_n 0, 1) := by decide +kernel
theorem dX9_talk_102 : decode cX9_talk 102 = .ok (.getfield 25, 3) := by decide +kernel
theorem dX9_talk_105 : decode cX9_talk 105 = .ok (.iload_n 1, 1) := by decide +kernel
theorem dX9_talk_106 : decode cX9_talk 106 = .ok (.iconst 0, 1) := by decide +kernel
theorem dX9_talk_107 : decode cX9_talk 107 = .ok (.iastore, 1) := by decide +kernel
theorem dX9_talk_108 : decode cX9_talk 108 = .ok (.iinc 1 1, 3) := by decide +kernel
theorem dX9_talk_111 : decode cX9_talk 111 = .ok (.goto (-16), 3) := by decide +kernel
theorem dX9_talk_114 : decode cX9_talk 114 = .ok (.aload_n 0, 1) := by decide +kernel
theorem dX9_talk_115 : decode cX9_talk 115 = .ok (.getfield 25, 3) := by decide +kernel
theorem dX9_talk_118 : decode cX9_talk 118 = .ok (.iconst 0, 1) := by decide +kernel
theorem dX9_talk_119 : decode cX9_talk 119 = .ok (.aload_n 0, 1) := by decide +kernel
theorem dX9_talk_120 : decode cX9_talk 120 = .ok (.getfield 90, 3) := by decide +kernel
theorem dX9_talk_123 : decode cX9_talk 123 = .ok (.iastore, 1) := by decide +kernel
theorem dX9_talk_124 : decode cX9_talk 124 = .ok (.aload_n 0, 1) := by decide +kernel
theorem dX9_talk_125 : decode cX9_talk 125 = .ok (.getfield 25, 3) := by decide +kernel
theorem dX9_talk_128 : decode cX9_talk 128 = .ok (.iconst 1, 1) := by decide +kernel
theorem dX9_talk_129 : decode cX9_talk 129 = .ok (.aload_n 0, 1) := by decide +kernel
theorem dX9_talk_130 : decode cX9_talk 130 = .ok (.getfield 93, 3) := by decide +kernel
theorem dX9_talk_133 : decode cX9_talk 133 = .ok (.iastore, 1) := by decide +kernel
theorem dX9_talk_134 : decode cX9_talk 134 = .ok (.aload_n 0, 1) := by decide +kernel
theorem dX9_talk_135 : decode cX9_talk 135 = .ok (.getfield 25, 3) := by decide +kernel
theorem dX9_talk_138 : decode cX9_talk 138 = .ok (.bipush 6, 2) := by decide +kernel
theorem dX9_talk_140 : decode cX9_talk 140 = .ok (.iconst 1, 1) := by decide +kernel
theorem dX9_talk_141 : decode cX9_talk 141 = .ok (.aload_n 0, 1) := by decide +kernel
theorem dX9_talk_142 : decode cX9_talk 142 = .ok (.getfield 57, 3) := by decide +kernel
theorem dX9_talk_145 : decode cX9_talk 145 = .ok (.ishl, 1) := by decide +kernel
theorem dX9_talk_146 : decode cX9_talk 146 = .ok (.iconst 1, 1) := by decide +kernel
theorem dX9_talk_147 : decode cX9_talk 147 = .ok (.isub, 1) := by decide +kernel
theorem dX9_talk_148 : decode cX9_talk 148 = .ok (.iastore, 1) := by decide +kernel
theorem dX9_talk_149 : decode cX9_talk 149 = .ok (.aload_n 0, 1) := by decide +kernel
theorem dX9_talk_150 : decode cX9_talk 150 = .ok (.iconst 0, 1) := by decide +kernel
theorem dX9_talk_151 : decode cX9_talk 151 = .ok (.putfield 103, 3) := by decide +kernel
theorem dX9_talk_154 : decode cX9_talk 154 = .ok (.aload_n 0, 1) := by decide +kernel
theorem dX9_talk_155 : decode cX9_talk 155 = .ok (.getfield 37, 3) := by decide +kernel
theorem dX9_talk_158 : decode cX9_talk 158 = .ok (.iconst 0, 1) := by decide +kernel
theorem dX9_talk_159 : decode cX9_talk 159 = .ok (.iconst 0, 1) := by decide +kernel
theorem dX9_talk_160 : decode cX9_talk 160 = .ok (.bastore, 1) := by decide +kernel
theorem dX9_talk_161 : decode cX9_talk 161 = .ok (.aload_n 0, 1) := by decide +kernel
theorem dX9_talk_162 : decode cX9_talk 162 = .ok (.getfield 37, 3) := by decide +kernel
theorem dX9_talk_165 : decode cX9_talk 165 = .ok (.iconst 1, 1) := by decide +kernel
theorem dX9_talk_166 : decode cX9_talk 166 = .ok (.iconst 0, 1) := by decide +kernel
theorem dX9_talk_167 : decode cX9_talk 167 = .ok (.bastore, 1) := by decide +kernel
theorem dX9_talk_168 : decode cX9_talk 168 = .ok (.bipush 10, 2) := by decide +kernel
theorem dX9_talk_170 : decode cX9_talk 170 = .ok (.aload_n 0, 1) := by decide +kernel
theorem dX9_talk_171 : decode cX9_talk 171 = .ok (.getfield 57, 3) := by decide +kernel
theorem dX9_talk_174 : decode cX9_talk 174 = .ok (.imul, 1) := by decide +kernel
theorem dX9_talk_175 : decode cX9_talk 175 = .ok (.aload_n 0, 1) := by decide +kernel
theorem dX9_talk_176 : decode cX9_talk 176 = .ok (.getfield 64, 3) := by decide +kernel
theorem dX9_talk_179 : decode cX9_talk 179 = .ok (.iadd, 1) := by decide +kernel
theorem dX9_talk_180 : decode cX9_talk 180 = .ok (.ireturn, 1) := by decide +kernel
theorem dX9_painBy_0 : decode cX9_painBy 0 = .ok (.iload_n 2, 1) := by decide +kernel
theorem dX9_painBy_1 : decode cX9_painBy 1 = .ok (.iload_n 0, 1) := by decide +kernel
theorem dX9_painBy_2 : decode cX9_painBy 2 = .ok (.if_icmp .le 9, 3) := by decide +kernel
theorem dX9_painBy_5 : decode cX9_painBy 5 = .ok (.iload_n 2, 1) := by decide +kernel
theorem dX9_painBy_6 : decode cX9_painBy 6 = .ok (.iload_n 0, 1) := by decide +kernel
theorem dX9_painBy_7 : decode cX9_painBy 7 = .ok (.isub, 1) := by decide +kernel
theorem dX9_painBy_8 : decode cX9_painBy 8 = .ok (.goto 4, 3) := by decide +kernel
theorem dX9_painBy_11 : decode cX9_painBy 11 = .ok (.iconst 0, 1) := by decide +kernel
theorem dX9_painBy_12 : decode cX9_painBy 12 = .ok (.istore_n 3, 1) := by decide +kernel
theorem dX9_painBy_13 : decode cX9_painBy 13 = .ok (.iload_n 1, 1) := by decide +kernel
theorem dX9_painBy_14 : decode cX9_painBy 14 = .ok (.iconst 1, 1) := by decide +kernel
theorem dX9_painBy_15 : decode cX9_painBy 15 = .ok (.if_icmp .eq 7, 3) := by decide +kernel
theorem dX9_painBy_18 : decode cX9_painBy 18 = .ok (.iload_n 3, 1) := by decide +kernel
theorem dX9_painBy_19 : decode cX9_painBy 19 = .ok (.ifCond .ne 5, 3) := by decide +kernel
theorem dX9_painBy_22 : decode cX9_painBy 22 = .ok (.iconst 0, 1) := by decide +kernel
theorem dX9_painBy_23 : decode cX9_painBy 23 = .ok (.ireturn, 1) := by decide +kernel
theorem dX9_painBy_24 : decode cX9_painBy 24 = .ok (.iload_n 1, 1) := by decide +kernel
theorem dX9_painBy_25 : decode cX9_painBy 25 = .ok (.iconst 2, 1) := by decide +kernel
theorem dX9_painBy_26 : decode cX9_painBy 26 = .ok (.if_icmp .ne 9, 3) := by decide +kernel
theorem dX9_painBy_29 : decode cX9_painBy 29 = .ok (.iload_n 3, 1) := by decide +kernel
theorem dX9_painBy_30 : decode cX9_painBy 30 = .ok (.iconst 1, 1) := by decide +kernel
theorem dX9_painBy_31 : decode cX9_painBy 31 = .ok (.iadd, 1) := by decide +kernel
theorem dX9_painBy_32 : decode cX9_painBy 32 = .ok (.goto 15, 3) := by decide +kernel
theorem dX9_painBy_35 : decode cX9_painBy 35 = .ok (.iload_n 1, 1) := by decide +kernel
theorem dX9_painBy_36 : decode cX9_painBy 36 = .ok (.iconst 3, 1) := by decide +kernel
theorem dX9_painBy_37 : decode cX9_painBy 37 = .ok (.if_icmp .ne 9, 3) := by decide +kernel
theorem dX9_painBy_40 : decode cX9_painBy 40 = .ok (.iload_n 3, 1) := by decide +kernel
theorem dX9_painBy_41 : decode cX9_painBy 41 = .ok (.iconst 1, 1) := by decide +kernel
theorem dX9_painBy_42 : decode cX9_painBy 42 = .ok (.isub, 1) := by decide +kernel
theorem dX9_painBy_43 : decode cX9_painBy 43 = .ok (.goto 4, 3) := by decide +kernel
theorem dX9_painBy_46 : decode cX9_painBy 46 = .ok (.iload_n 3, 1) := by decide +kernel
theorem dX9_painBy_47 : decode cX9_painBy 47 = .ok (.ireturn, 1) := by decide +kernel
theorem dX9_painOf_0 : decode cX9_painOf 0 = .ok (.aload_n 0, 1) := by decide +kernel
theorem dX9_painOf_1 : decode cX9_painOf 1 = .ok (.getfield 13, 3) := by decide +kernel
theorem dX9_painOf_4 : decode cX9_painOf 4 = .ok (.iconst 3, 1) := by decide +kernel
theorem dX9_painOf_5 : decode cX9_painOf 5 = .ok (.iload_n 1, 1) := by decide +kernel
theorem dX9_painOf_6 : decode cX9_painOf 6 = .ok (.imul, 1) := by decide +kernel
theorem dX9_painOf_7 : decode cX9_painOf 7 = .ok (.iaload, 1) := by decide +kernel
theorem dX9_painOf_8 : decode cX9_painOf 8 = .ok (.aload_n 0, 1) := by decide +kernel
theorem dX9_painOf_9 : decode cX9_painOf 9 = .ok (.getfield 13, 3) := by decide +kernel
theorem dX9_painOf_12 : decode cX9_painOf 12 = .ok (.iconst 3, 1) := by decide +kernel
theorem dX9_painOf_13 : decode cX9_painOf 13 = .ok (.iload_n 1, 1) := by decide +kernel
theorem dX9_painOf_14 : decode cX9_painOf 14 = .ok (.imul, 1) := by decide +kernel
theorem dX9_painOf_15 : decode cX9_painOf 15 = .ok (.iconst 2, 1) := by decide +kernel
theorem dX9_painOf_16 : decode cX9_painOf 16 = .ok (.iadd, 1) := by decide +kernel
theorem dX9_painOf_17 : decode cX9_painOf 17 = .ok (.iaload, 1) := by decide +kernel
theorem dX9_painOf_18 : decode cX9_painOf 18 = .ok (.iload_n 2, 1) := by decide +kernel
theorem dX9_painOf_19 : decode cX9_painOf 19 = .ok (.invokestatic 106, 3) := by decide +kernel
theorem dX9_painOf_22 : decode cX9_painOf 22 = .ok (.ireturn, 1) := by decide +kernel
theorem dX9_worthOf_0 : decode cX9_worthOf 0 = .ok (.aload_n 0, 1) := by decide +kernel
theorem dX9_worthOf_1 : decode cX9_worthOf 1 = .ok (.getfield 16, 3) := by decide +kernel
theorem dX9_worthOf_4 : decode cX9_worthOf 4 = .ok (.iconst 3, 1) := by decide +kernel
theorem dX9_worthOf_5 : decode cX9_worthOf 5 = .ok (.iload_n 1, 1) := by decide +kernel
theorem dX9_worthOf_6 : decode cX9_worthOf 6 = .ok (.imul, 1) := by decide +kernel
theorem dX9_worthOf_7 : decode cX9_worthOf 7 = .ok (.iaload, 1) := by decide +kernel
theorem dX9_worthOf_8 : decode cX9_worthOf 8 = .ok (.aload_n 0, 1) := by decide +kernel
theorem dX9_worthOf_9 : decode cX9_worthOf 9 = .ok (.getfield 16, 3) := by decide +kernel
theorem dX9_worthOf_12 : decode cX9_worthOf 12 = .ok (.iconst 3, 1) := by decide +kernel
theorem dX9_worthOf_13 : decode cX9_worthOf 13 = .ok (.iload_n 1, 1) := by decide +kernel
theorem dX9_worthOf_14 : decode cX9_worthOf 14 = .ok (.imul, 1) := by decide +kernel
theorem dX9_worthOf_15 : decode cX9_worthOf 15 = .ok (.iconst 1, 1) := by decide +kernel
theorem dX9_worthOf_16 : decode cX9_worthOf 16 = .ok (.iadd, 1) := by decide +kernel
theorem dX9_worthOf_17 : decode cX9_worthOf 17 = .ok (.iaload, 1) := by decide +kernel
theorem dX9_worthOf_18 : decode cX9_worthOf 18 = .ok (.iadd, 1) := by decide +kernel
theorem dX9_worthOf_19 : decode cX9_worthOf 19 = .ok (.ireturn, 1) := by decide +kernel
theorem dX9_canSay_0 : decode cX9_canSay 0 = .ok (.aload_n 1, 1) := by decide +kernel
theorem dX9_canSay_1 : decode cX9_canSay 1 = .ok (.bipush 8, 2) := by decide +kernel
theorem dX9_canSay_3 : decode cX9_canSay 3 = .ok (.iaload, 1) := by decide +kernel
theorem dX9_canSay_4 : decode cX9_canSay 4 = .ok (.iload_n 2, 1) := by decide +kernel
theorem dX9_canSay_5 : decode cX9_canSay 5 = .ok (.invokestatic 110, 3) := by decide +kernel
theorem dX9_canSay_8 : decode cX9_canSay 8 = .ok (.ifCond .ne 27, 3) := by decide +kernel
theorem dX9_canSay_11 : decode cX9_canSay 11 = .ok (.aload_n 1, 1) := by decide +kernel
theorem dX9_canSay_12 : decode cX9_canSay 12 = .ok (.bipush 6, 2) := by decide +kernel
theorem dX9_canSay_14 : decode cX9_canSay 14 = .ok (.iaload, 1) := by decide +kernel
theorem dX9_canSay_15 : decode cX9_canSay 15 = .ok (.aload_n 0, 1) := by decide +kernel
theorem dX9_canSay_16 : decode cX9_canSay 16 = .ok (.getfield 16, 3) := by decide +kernel
theorem dX9_canSay_19 : decode cX9_canSay 19 = .ok (.iconst 3, 1) := by decide +kernel
theorem dX9_canSay_20 : decode cX9_canSay 20 = .ok (.iload_n 2, 1) := by decide +kernel
theorem dX9_canSay_21 : decode cX9_canSay 21 = .ok (.imul, 1) := by decide +kernel
theorem dX9_canSay_22 : decode cX9_canSay 22 = .ok (.iconst 2, 1) := by decide +kernel
theorem dX9_canSay_23 : decode cX9_canSay 23 = .ok (.iadd, 1) := by decide +kernel
theorem dX9_canSay_24 : decode cX9_canSay 24 = .ok (.iaload, 1) := by decide +kernel
theorem dX9_canSay_25 : decode cX9_canSay 25 = .ok (.invokestatic 110, 3) := by decide +kernel
theorem dX9_canSay_28 : decode cX9_canSay 28 = .ok (.ifCond .eq 7, 3) := by decide +kernel
theorem dX9_canSay_31 : decode cX9_canSay 31 = .ok (.iconst 1, 1) := by decide +kernel
theorem dX9_canSay_32 : decode cX9_canSay 32 = .ok (.goto 4, 3) := by decide +kernel
theorem dX9_canSay_35 : decode cX9_canSay 35 = .ok (.iconst 0, 1) := by decide +kernel
theorem dX9_canSay_36 : decode cX9_canSay 36 = .ok (.istore_n 3, 1) := by decide +kernel
theorem dX9_canSay_37 : decode cX9_canSay 37 = .ok (.iload_n 3, 1) := by decide +kernel
theorem dX9_canSay_38 : decode cX9_canSay 38 = .ok (.ifCond .eq 41, 3) := by decide +kernel
theorem dX9_canSay_41 : decode cX9_canSay 41 = .ok (.aload_n 1, 1) := by decide +kernel
theorem dX9_canSay_42 : decode cX9_canSay 42 = .ok (.iconst 0, 1) := by decide +kernel
theorem dX9_canSay_43 : decode cX9_canSay 43 = .ok (.iaload, 1) := by decide +kernel
theorem dX9_canSay_44 : decode cX9_canSay 44 = .ok (.aload_n 0, 1) := by decide +kernel
theorem dX9_canSay_45 : decode cX9_canSay 45 = .ok (.getfield 16, 3) := by decide +kernel
theorem dX9_canSay_48 : decode cX9_canSay 48 = .ok (.iconst 3, 1) := by decide +kernel
theorem dX9_canSay_49 : decode cX9_canSay 49 = .ok (.iload_n 2, 1) := by decide +kernel
theorem dX9_canSay_50 : decode cX9_canSay 50 = .ok (.imul, 1) := by decide +kernel
theorem dX9_canSay_51 : decode cX9_canSay 51 = .ok (.iconst 1, 1) := by decide +kernel
theorem dX9_canSay_52 : decode cX9_canSay 52 = .ok (.iadd, 1) := by decide +kernel
theorem dX9_canSay_53 : decode cX9_canSay 53 = .ok (.iaload, 1) := by decide +kernel
theorem dX9_canSay_54 : decode cX9_canSay 54 = .ok (.if_icmp .lt 25, 3) := by decide +kernel
theorem dX9_canSay_57 : decode cX9_canSay 57 = .ok (.aload_n 0, 1) := by decide +kernel
theorem dX9_canSay_58 : decode cX9_canSay 58 = .ok (.getfield 16, 3) := by decide +kernel
theorem dX9_canSay_61 : decode cX9_canSay 61 = .ok (.iconst 3, 1) := by decide +kernel
theorem dX9_canSay_62 : decode cX9_canSay 62 = .ok (.iload_n 2, 1) := by decide +kernel
theorem dX9_canSay_63 : decode cX9_canSay 63 = .ok (.imul, 1) := by decide +kernel
theorem dX9_canSay_64 : decode cX9_canSay 64 = .ok (.iaload, 1) := by decide +kernel
theorem dX9_canSay_65 : decode cX9_canSay 65 = .ok (.iconst 4, 1) := by decide +kernel
theorem dX9_canSay_66 : decode cX9_canSay 66 = .ok (.aload_n 1, 1) := by decide +kernel
theorem dX9_canSay_67 : decode cX9_canSay 67 = .ok (.iconst 0, 1) := by decide +kernel
theorem dX9_canSay_68 : decode cX9_canSay 68 = .ok (.iaload, 1) := by decide +kernel
theorem dX9_canSay_69 : decode cX9_canSay 69 = .ok (.iconst 3, 1) := by decide +kernel
theorem dX9_canSay_70 : decode cX9_canSay 70 = .ok (.idiv, 1) := by decide +kernel
theorem dX9_canSay_71 : decode cX9_canSay 71 = .ok (.isub, 1) := by decide +kernel
theorem dX9_canSay_72 : decode cX9_canSay 72 = .ok (.if_icmp .gt 7, 3) := by decide +kernel
theorem dX9_canSay_75 : decode cX9_canSay 75 = .ok (.iconst 1, 1) := by decide +kernel
theorem dX9_canSay_76 : decode cX9_canSay 76 = .ok (.goto 4, 3) := by decide +kernel
theorem dX9_canSay_79 : decode cX9_canSay 79 = .ok (.iconst 0, 1) := by decide +kernel
theorem dX9_canSay_80 : decode cX9_canSay 80 = .ok (.ireturn, 1) := by decide +kernel
theorem dX9_sayable_0 : decode cX9_sayable 0 = .ok (.iconst 0, 1) := by decide +kernel
theorem dX9_sayable_1 : decode cX9_sayable 1 = .ok (.istore_n 2, 1) := by decide +kernel
theorem dX9_sayable_2 : decode cX9_sayable 2 = .ok (.iconst 0, 1) := by decide +kernel
theorem dX9_sayable_3 : decode cX9_sayable 3 = .ok (.istore_n 3, 1) := by decide +kernel
theorem dX9_sayable_4 : decode cX9_sayable 4 = .ok (.iload_n 3, 1) := by decide +kernel
theorem dX9_sayable_5 : decode cX9_sayable 5 = .ok (.aload_n 0, 1) := by decide +kernel
theorem dX9_sayable_6 : decode cX9_sayable 6 = .ok (.getfield 64, 3) := by decide +kernel
theorem dX9_sayable_9 : decode cX9_sayable 9 = .ok (.if_icmp .ge 28, 3) := by decide +kernel
theorem dX9_sayable_12 : decode cX9_sayable 12 = .ok (.iload_n 2, 1) := by decide +kernel
theorem dX9_sayable_13 : decode cX9_sayable 13 = .ok (.aload_n 0, 1) := by decide +kernel
theorem dX9_sayable_14 : decode cX9_sayable 14 = .ok (.aload_n 1, 1) := by decide +kernel
theorem dX9_sayable_15 : decode cX9_sayable 15 = .ok (.iload_n 3, 1) := by decide +kernel
theorem dX9_sayable_16 : decode cX9_sayable 16 = .ok (.invokevirtual 114, 3) := by decide +kernel
theorem dX9_sayable_19 : decode cX9_sayable 19 = .ok (.ifCond .eq 9, 3) := by decide +kernel
theorem dX9_sayable_22 : decode cX9_sayable 22 = .ok (.iconst 1, 1) := by decide +kernel
theorem dX9_sayable_23 : decode cX9_sayable 23 = .ok (.iload_n 3, 1) := by decide +kernel
theorem dX9_sayable_24 : decode cX9_sayable 24 = .ok (.ishl, 1) := by decide +kernel
theorem dX9_sayable_25 : decode cX9_sayable 25 = .ok (.goto 4, 3) := by decide +kernel
theorem dX9_sayable_28 : decode cX9_sayable 28 = .ok (.iconst 0, 1) := by decide +kernel
theorem dX9_sayable_29 : decode cX9_sayable 29 = .ok (.ior, 1) := by decide +kernel
theorem dX9_sayable_30 : decode cX9_sayable 30 = .ok (.istore_n 2, 1) := by decide +kernel
theorem dX9_sayable_31 : decode cX9_sayable 31 = .ok (.iinc 3 1, 3) := by decide +kernel
theorem dX9_sayable_34 : decode cX9_sayable 34 = .ok (.goto (-30), 3) := by decide +kernel
theorem dX9_sayable_37 : decode cX9_sayable 37 = .ok (.iload_n 2, 1) := by decide +kernel
theorem dX9_sayable_38 : decode cX9_sayable 38 = .ok (.ireturn, 1) := by decide +kernel
theorem dX9_goBite_0 : decode cX9_goBite 0 = .ok (.iconst 0, 1) := by decide +kernel
theorem dX9_goBite_1 : decode cX9_goBite 1 = .ok (.istore_n 2, 1) := by decide +kernel
theorem dX9_goBite_2 : decode cX9_goBite 2 = .ok (.iload_n 2, 1) := by decide +kernel
theorem dX9_goBite_3 : decode cX9_goBite 3 = .ok (.aload_n 0, 1) := by decide +kernel
theorem dX9_goBite_4 : decode cX9_goBite 4 = .ok (.getfield 57, 3) := by decide +kernel
theorem dX9_goBite_7 : decode cX9_goBite 7 = .ok (.if_icmp .ge 72, 3) := by decide +kernel
theorem dX9_goBite_10 : decode cX9_goBite 10 = .ok (.aload_n 1, 1) := by decide +kernel
theorem dX9_goBite_11 : decode cX9_goBite 11 = .ok (.bipush 6, 2) := by decide +kernel
theorem dX9_goBite_13 : decode cX9_goBite 13 = .ok (.iaload, 1) := by decide +kernel
theorem dX9_goBite_14 : decode cX9_goBite 14 = .ok (.iload_n 2, 1) := by decide +kernel
theorem dX9_goBite_15 : decode cX9_goBite 15 = .ok (.invokestatic 110, 3) := by decide +kernel
theorem dX9_goBite_18 : decode cX9_goBite 18 = .ok (.ifCond .eq 55, 3) := by decide +kernel
theorem dX9_goBite_21 : decode cX9_goBite 21 = .ok (.aload_n 1, 1) := by decide +kernel
theorem dX9_goBite_22 : decode cX9_goBite 22 = .ok (.iconst 2, 1) := by decide +kernel
theorem dX9_goBite_23 : decode cX9_goBite 23 = .ok (.iload_n 2, 1) := by decide +kernel
theorem dX9_goBite_24 : decode cX9_goBite 24 = .ok (.iadd, 1) := by decide +kernel
theorem dX9_goBite_25 : decode cX9_goBite 25 = .ok (.dup2, 1) := by decide +kernel
theorem dX9_goBite_26 : decode cX9_goBite 26 = .ok (.iaload, 1) := by decide +kernel
theorem dX9_goBite_27 : decode cX9_goBite 27 = .ok (.aload_n 0, 1) := by decide +kernel
theorem dX9_goBite_28 : decode cX9_goBite 28 = .ok (.iload_n 2, 1) := by decide +kernel
theorem dX9_goBite_29 : decode cX9_goBite 29 = .ok (.aload_n 1, 1) := by decide +kernel
theorem dX9_goBite_30 : decode cX9_goBite 30 = .ok (.iconst 0, 1) := by decide +kernel
theorem dX9_goBite_31 : decode cX9_goBite 31 = .ok (.iaload, 1) := by decide +kernel
theorem dX9_goBite_32 : decode cX9_goBite 32 = .ok (.invokevirtual 118, 3) := by decide +kernel
theorem dX9_goBite_35 : decode cX9_goBite 35 = .ok (.iadd, 1) := by decide +kernel
theorem dX9_goBite_36 : decode cX9_goBite 36 = .ok (.iastore, 1) := by decide +kernel
theorem dX9_goBite_37 : decode cX9_goBite 37 = .ok (.aload_n 1, 1) := by decide +kernel
theorem dX9_goBite_38 : decode cX9_goBite 38 = .ok (.bipush 6, 2) := by decide +kernel
theorem dX9_goBite_40 : decode cX9_goBite 40 = .ok (.dup2, 1) := by decide +kernel
theorem dX9_goBite_41 : decode cX9_goBite 41 = .ok (.iaload, 1) := by decide +kernel
theorem dX9_goBite_42 : decode cX9_goBite 42 = .ok (.aload_n 1, 1) := by decide +kernel
theorem dX9_goBite_43 : decode cX9_goBite 43 = .ok (.iconst 2, 1) := by decide +kernel
theorem dX9_goBite_44 : decode cX9_goBite 44 = .ok (.iload_n 2, 1) := by decide +kernel
theorem dX9_goBite_45 : decode cX9_goBite 45 = .ok (.iadd, 1) := by decide +kernel
theorem dX9_goBite_46 : decode cX9_goBite 46 = .ok (.iaload, 1) := by decide +kernel
theorem dX9_goBite_47 : decode cX9_goBite 47 = .ok (.iconst 2, 1) := by decide +kernel
theorem dX9_goBite_48 : decode cX9_goBite 48 = .ok (.aload_n 0, 1) := by decide +kernel
theorem dX9_goBite_49 : decode cX9_goBite 49 = .ok (.getfield 13, 3) := by decide +kernel
theorem dX9_goBite_52 : decode cX9_goBite 52 = .ok (.iconst 3, 1) := by decide +kernel
theorem dX9_goBite_53 : decode cX9_goBite 53 = .ok (.iload_n 2, 1) := by decide +kernel
theorem dX9_goBite_54 : decode cX9_goBite 54 = .ok (.imul, 1) := by decide +kernel
theorem dX9_goBite_55 : decode cX9_goBite 55 = .ok (.iconst 1, 1) := by decide +kernel
theorem dX9_goBite_56 : decode cX9_goBite 56 = .ok (.iadd, 1) := by decide +kernel
theorem dX9_goBite_57 : decode cX9_goBite 57 = .ok (.iaload, 1) := by decide +kernel
theorem dX9_goBite_58 : decode cX9_goBite 58 = .ok (.imul, 1) := by decide +kernel
theorem dX9_goBite_59 : decode cX9_goBite 59 = .ok (.if_icmp .lt 11, 3) := by decide +kernel
theorem dX9_goBite_62 : decode cX9_goBite 62 = .ok (.iconst 1, 1) := by decide +kernel
theorem dX9_goBite_63 : decode cX9_goBite 63 = .ok (.iload_n 2, 1) := by decide +kernel
theorem dX9_goBite_64 : decode cX9_goBite 64 = .ok (.ishl, 1) := by decide +kernel
theorem dX9_goBite_65 : decode cX9_goBite 65 = .ok (.iconst (-1), 1) := by decide +kernel
theorem dX9_goBite_66 : decode cX9_goBite 66 = .ok (.ixor, 1) := by decide +kernel
theorem dX9_goBite_67 : decode cX9_goBite 67 = .ok (.goto 4, 3) := by decide +kernel
theorem dX9_goBite_70 : decode cX9_goBite 70 = .ok (.iconst (-1), 1) := by decide +kernel
theorem dX9_goBite_71 : decode cX9_goBite 71 = .ok (.iand, 1) := by decide +kernel
theorem dX9_goBite_72 : decode cX9_goBite 72 = .ok (.iastore, 1) := by decide +kernel
theorem dX9_goBite_73 : decode cX9_goBite 73 = .ok (.iinc 2 1, 3) := by decide +kernel
theorem dX9_goBite_76 : decode cX9_goBite 76 = .ok (.goto (-74), 3) := by decide +kernel
theorem dX9_goBite_79 : decode cX9_goBite 79 = .ok (.aload_n 1, 1) := by decide +kernel
theorem dX9_goBite_80 : decode cX9_goBite 80 = .ok (.iconst 0, 1) := by decide +kernel
theorem dX9_goBite_81 : decode cX9_goBite 81 = .ok (.dup2, 1) := by decide +kernel
theorem dX9_goBite_82 : decode cX9_goBite 82 = .ok (.iaload, 1) := by decide +kernel
theorem dX9_goBite_83 : decode cX9_goBite 83 = .ok (.aload_n 1, 1) := by decide +kernel
theorem dX9_goBite_84 : decode cX9_goBite 84 = .ok (.iconst 0, 1) := by decide +kernel
theorem dX9_goBite_85 : decode cX9_goBite 85 = .ok (.iaload, 1) := by decide +kernel
theorem dX9_goBite_86 : decode cX9_goBite 86 = .ok (.ifCond .le 7, 3) := by decide +kernel
theorem dX9_goBite_89 : decode cX9_goBite 89 = .ok (.iconst 1, 1) := by decide +kernel
theorem dX9_goBite_90 : decode cX9_goBite 90 = .ok (.goto 4, 3) := by decide +kernel
theorem dX9_goBite_93 : decode cX9_goBite 93 = .ok (.iconst 0, 1) := by decide +kernel
theorem dX9_goBite_94 : decode cX9_goBite 94 = .ok (.isub, 1) := by decide +kernel
theorem dX9_goBite_95 : decode cX9_goBite 95 = .ok (.iastore, 1) := by decide +kernel
theorem dX9_goBite_96 : decode cX9_goBite 96 = .ok (.aload_n 1, 1) := by decide +kernel
theorem dX9_goBite_97 : decode cX9_goBite 97 = .ok (.bipush 9, 2) := by decide +kernel
theorem dX9_goBite_99 : decode cX9_goBite 99 = .ok (.dup2, 1) := by decide +kernel
theorem dX9_goBite_100 : decode cX9_goBite 100 = .ok (.iaload, 1) := by decide +kernel
theorem dX9_goBite_101 : decode cX9_goBite 101 = .ok (.iconst 1, 1) := by decide +kernel
theorem dX9_goBite_102 : decode cX9_goBite 102 = .ok (.iadd, 1) := by decide +kernel
theorem dX9_goBite_103 : decode cX9_goBite 103 = .ok (.iastore, 1) := by decide +kernel
theorem dX9_goBite_104 : decode cX9_goBite 104 = .ok (.return_, 1) := by decide +kernel
theorem dX9_goSpice_0 : decode cX9_goSpice 0 = .ok (.aload_n 0, 1) := by decide +kernel
theorem dX9_goSpice_1 : decode cX9_goSpice 1 = .ok (.iconst 1, 1) := by decide +kernel
theorem dX9_goSpice_2 : decode cX9_goSpice 2 = .ok (.dup2, 1) := by decide +kernel
theorem dX9_goSpice_3 : decode cX9_goSpice 3 = .ok (.iaload, 1) := by decide +kernel
theorem dX9_goSpice_4 : decode cX9_goSpice 4 = .ok (.iconst 1, 1) := by decide +kernel
theorem dX9_goSpice_5 : decode cX9_goSpice 5 = .ok (.isub, 1) := by decide +kernel
theorem dX9_goSpice_6 : decode cX9_goSpice 6 = .ok (.iastore, 1) := by decide +kernel
theorem dX9_goSpice_7 : decode cX9_goSpice 7 = .ok (.aload_n 0, 1) := by decide +kernel
theorem dX9_goSpice_8 : decode cX9_goSpice 8 = .ok (.iconst 0, 1) := by decide +kernel
theorem dX9_goSpice_9 : decode cX9_goSpice 9 = .ok (.aload_n 0, 1) := by decide +kernel
theorem dX9_goSpice_10 : decode cX9_goSpice 10 = .ok (.iconst 0, 1) := by decide +kernel
theorem dX9_goSpice_11 : decode cX9_goSpice 11 = .ok (.iaload, 1) := by decide +kernel
theorem dX9_goSpice_12 : decode cX9_goSpice 12 = .ok (.iconst 2, 1) := by decide +kernel
theorem dX9_goSpice_13 : decode cX9_goSpice 13 = .ok (.iadd, 1) := by decide +kernel
theorem dX9_goSpice_14 : decode cX9_goSpice 14 = .ok (.bipush 9, 2) := by decide +kernel
theorem dX9_goSpice_16 : decode cX9_goSpice 16 = .ok (.if_icmp .le 8, 3) := by decide +kernel
theorem dX9_goSpice_19 : decode cX9_goSpice 19 = .ok (.bipush 9, 2) := by decide +kernel
theorem dX9_goSpice_21 : decode cX9_goSpice 21 = .ok (.goto 8, 3) := by decide +kernel
theorem dX9_goSpice_24 : decode cX9_goSpice 24 = .ok (.aload_n 0, 1) := by decide +kernel
theorem dX9_goSpice_25 : decode cX9_goSpice 25 = .ok (.iconst 0, 1) := by decide +kernel
theorem dX9_goSpice_26 : decode cX9_goSpice 26 = .ok (.iaload, 1) := by decide +kernel
theorem dX9_goSpice_27 : decode cX9_goSpice 27 = .ok (.iconst 2, 1) := by decide +kernel
theorem dX9_goSpice_28 : decode cX9_goSpice 28 = .ok (.iadd, 1) := by decide +kernel
theorem dX9_goSpice_29 : decode cX9_goSpice 29 = .ok (.iastore, 1) := by decide +kernel
theorem dX9_goSpice_30 : decode cX9_goSpice 30 = .ok (.return_, 1) := by decide +kernel
theorem dX9_about_0 : decode cX9_about 0 = .ok (.aload_n 0, 1) := by decide +kernel
theorem dX9_about_1 : decode cX9_about 1 = .ok (.iconst 0, 1) := by decide +kernel
theorem dX9_about_2 : decode cX9_about 2 = .ok (.putfield 53, 3) := by decide +kernel
theorem dX9_about_5 : decode cX9_about 5 = .ok (.iload_n 1, 1) := by decide +kernel
theorem dX9_about_6 : decode cX9_about 6 = .ok (.tableswitch 130 0 10 #[58, 63, 68, 75, 82, 90, 98, 106, 115, 120, 125], 58) := by decide +kernel
theorem dX9_about_64 : decode cX9_about 64 = .ok (.aload_n 0, 1) := by decide +kernel
theorem dX9_about_65 : decode cX9_about 65 = .ok (.getfield 57, 3) := by decide +kernel
theorem dX9_about_68 : decode cX9_about 68 = .ok (.ireturn, 1) := by decide +kernel
theorem dX9_about_69 : decode cX9_about 69 = .ok (.aload_n 0, 1) := by decide +kernel
theorem dX9_about_70 : decode cX9_about 70 = .ok (.getfield 64, 3) := by decide +kernel
theorem dX9_about_73 : decode cX9_about 73 = .ok (.ireturn, 1) := by decide +kernel
theorem dX9_about_74 : decode cX9_about 74 = .ok (.aload_n 0, 1) := by decide +kernel
theorem dX9_about_75 : decode cX9_about 75 = .ok (.getfield 25, 3) := by decide +kernel
theorem dX9_about_78 : decode cX9_about 78 = .ok (.iconst 0, 1) := by decide +kernel
theorem dX9_about_79 : decode cX9_about 79 = .ok (.iaload, 1) := by decide +kernel
theorem dX9_about_80 : decode cX9_about 80 = .ok (.ireturn, 1) := by decide +kernel
theorem dX9_about_81 : decode cX9_about 81 = .ok (.aload_n 0, 1) := by decide +kernel
theorem dX9_about_82 : decode cX9_about 82 = .ok (.getfield 25, 3) := by decide +kernel
theorem dX9_about_85 : decode cX9_about 85 = .ok (.iconst 1, 1) := by decide +kernel
theorem dX9_about_86 : decode cX9_about 86 = .ok (.iaload, 1) := by decide +kernel
theorem dX9_about_87 : decode cX9_about 87 = .ok (.ireturn, 1) := by decide +kernel
theorem dX9_about_88 : decode cX9_about 88 = .ok (.aload_n 0, 1) := by decide +kernel
theorem dX9_about_89 : decode cX9_about 89 = .ok (.getfield 25, 3) := by decide +kernel
theorem dX9_about_92 : decode cX9_about 92 = .ok (.bipush 6, 2) := by decide +kernel
theorem dX9_about_94 : decode cX9_about 94 = .ok (.iaload, 1) := by decide +kernel
theorem dX9_about_95 : decode cX9_about 95 = .ok (.ireturn, 1) := by decide +kernel
theorem dX9_about_96 : decode cX9_about 96 = .ok (.aload_n 0, 1) := by decide +kernel
theorem dX9_about_97 : decode cX9_about 97 = .ok (.getfield 25, 3) := by decide +kernel
theorem dX9_about_100 : decode cX9_about 100 = .ok (.bipush 8, 2) := by decide +kernel
theorem dX9_about_102 : decode cX9_about 102 = .ok (.iaload, 1) := by decide +kernel
theorem dX9_about_103 : decode cX9_about 103 = .ok (.ireturn, 1) := by decide +kernel
theorem dX9_about_104 : decode cX9_about 104 = .ok (.aload_n 0, 1) := by decide +kernel
theorem dX9_about_105 : decode cX9_about 105 = .ok (.getfield 25, 3) := by decide +kernel
theorem dX9_about_108 : decode cX9_about 108 = .ok (.bipush 9, 2) := by decide +kernel
theorem dX9_about_110 : decode cX9_about 110 = .ok (.iaload, 1) := by decide +kernel
theorem dX9_about_111 : decode cX9_about 111 = .ok (.ireturn, 1) := by decide +kernel
theorem dX9_about_112 : decode cX9_about 112 = .ok (.aload_n 0, 1) := by decide +kernel
theorem dX9_about_113 : decode cX9_about 113 = .ok (.aload_n 0, 1) := by decide +kernel
theorem dX9_about_114 : decode cX9_about 114 = .ok (.getfield 25, 3) := by decide +kernel
theorem dX9_about_117 : decode cX9_about 117 = .ok (.invokevirtual 121, 3) := by decide +kernel
theorem dX9_about_120 : decode cX9_about 120 = .ok (.ireturn, 1) := by decide +kernel
theorem dX9_about_121 : decode cX9_about 121 = .ok (.aload_n 0, 1) := by decide +kernel
theorem dX9_about_122 : decode cX9_about 122 = .ok (.getfield 103, 3) := by decide +kernel
theorem dX9_about_125 : decode cX9_about 125 = .ok (.ireturn, 1) := by decide +kernel
theorem dX9_about_126 : decode cX9_about 126 = .ok (.aload_n 0, 1) := by decide +kernel
theorem dX9_about_127 : decode cX9_about 127 = .ok (.getfield 125, 3) := by decide +kernel
theorem dX9_about_130 : decode cX9_about 130 = .ok (.ireturn, 1) := by decide +kernel
theorem dX9_about_131 : decode cX9_about 131 = .ok (.aload_n 0, 1) := by decide +kernel
theorem dX9_about_132 : decode cX9_about 132 = .ok (.getfield 69, 3) := by decide +kernel
theorem dX9_about_135 : decode cX9_about 135 = .ok (.ireturn, 1) := by decide +kernel
theorem dX9_about_136 : decode cX9_about 136 = .ok (.bipush (-2), 2) := by decide +kernel
theorem dX9_about_138 : decode cX9_about 138 = .ok (.ireturn, 1) := by decide +kernel
theorem dX9_envoy_0 : decode cX9_envoy 0 = .ok (.aload_n 0, 1) := by decide +kernel
theorem dX9_envoy_1 : decode cX9_envoy 1 = .ok (.iconst 0, 1) := by decide +kernel
theorem dX9_envoy_2 : decode cX9_envoy 2 = .ok (.putfield 53, 3) := by decide +kernel
theorem dX9_envoy_5 : decode cX9_envoy 5 = .ok (.aload_n 0, 1) := by decide +kernel
theorem dX9_envoy_6 : decode cX9_envoy 6 = .ok (.iload_n 1, 1) := by decide +kernel
theorem dX9_envoy_7 : decode cX9_envoy 7 = .ok (.invokevirtual 128, 3) := by decide +kernel
theorem dX9_envoy_10 : decode cX9_envoy 10 = .ok (.ifCond .eq 5, 3) := by decide +kernel
theorem dX9_envoy_13 : decode cX9_envoy 13 = .ok (.iconst (-1), 1) := by decide +kernel
theorem dX9_envoy_14 : decode cX9_envoy 14 = .ok (.ireturn, 1) := by decide +kernel
theorem dX9_envoy_15 : decode cX9_envoy 15 = .ok (.iload_n 2, 1) := by decide +kernel
theorem dX9_envoy_16 : decode cX9_envoy 16 = .ok (.tableswitch 84 0 5 #[40, 40, 40, 51, 60, 72], 40) := by decide +kernel
theorem dX9_envoy_56 : decode cX9_envoy 56 = .ok (.aload_n 0, 1) := by decide +kernel
theorem dX9_envoy_57 : decode cX9_envoy 57 = .ok (.getfield 13, 3) := by decide +kernel
theorem dX9_envoy_60 : decode cX9_envoy 60 = .ok (.iconst 3, 1) := by decide +kernel
theorem dX9_envoy_61 : decode cX9_envoy 61 = .ok (.iload_n 1, 1) := by decide +kernel
theorem dX9_envoy_62 : decode cX9_envoy 62 = .ok (.imul, 1) := by decide +kernel
theorem dX9_envoy_63 : decode cX9_envoy 63 = .ok (.iload_n 2, 1) := by decide +kernel
theorem dX9_envoy_64 : decode cX9_envoy 64 = .ok (.iadd, 1) := by decide +kernel
theorem dX9_envoy_65 : decode cX9_envoy 65 = .ok (.iaload, 1) := by decide +kernel
theorem dX9_envoy_66 : decode cX9_envoy 66 = .ok (.ireturn, 1) := by decide +kernel
theorem dX9_envoy_67 : decode cX9_envoy 67 = .ok (.aload_n 0, 1) := by decide +kernel
theorem dX9_envoy_68 : decode cX9_envoy 68 = .ok (.getfield 25, 3) := by decide +kernel
theorem dX9_envoy_71 : decode cX9_envoy 71 = .ok (.iconst 2, 1) := by decide +kernel
theorem dX9_envoy_72 : decode cX9_envoy 72 = .ok (.iload_n 1, 1) := by decide +kernel
theorem dX9_envoy_73 : decode cX9_envoy 73 = .ok (.iadd, 1) := by decide +kernel
theorem dX9_envoy_74 : decode cX9_envoy 74 = .ok (.iaload, 1) := by decide +kernel
theorem dX9_envoy_75 : decode cX9_envoy 75 = .ok (.ireturn, 1) := by decide +kernel
theorem dX9_envoy_76 : decode cX9_envoy 76 = .ok (.aload_n 0, 1) := by decide +kernel
theorem dX9_envoy_77 : decode cX9_envoy 77 = .ok (.iload_n 1, 1) := by decide +kernel
theorem dX9_envoy_78 : decode cX9_envoy 78 = .ok (.aload_n 0, 1) := by decide +kernel
theorem dX9_envoy_79 : decode cX9_envoy 79 = .ok (.getfield 25, 3) := by decide +kernel
theorem dX9_envoy_82 : decode cX9_envoy 82 = .ok (.iconst 0, 1) := by decide +kernel
theorem dX9_envoy_83 : decode cX9_envoy 83 = .ok (.iaload, 1) := by decide +kernel
theorem dX9_envoy_84 : decode cX9_envoy 84 = .ok (.invokevirtual 118, 3) := by decide +kernel
theorem dX9_envoy_87 : decode cX9_envoy 87 = .ok (.ireturn, 1) := by decide +kernel
theorem dX9_envoy_88 : decode cX9_envoy 88 = .ok (.aload_n 0, 1) := by decide +kernel
theorem dX9_envoy_89 : decode cX9_envoy 89 = .ok (.getfield 25, 3) := by decide +kernel
theorem dX9_envoy_92 : decode cX9_envoy 92 = .ok (.bipush 7, 2) := by decide +kernel
theorem dX9_envoy_94 : decode cX9_envoy 94 = .ok (.iaload, 1) := by decide +kernel
theorem dX9_envoy_95 : decode cX9_envoy 95 = .ok (.iload_n 1, 1) := by decide +kernel
theorem dX9_envoy_96 : decode cX9_envoy 96 = .ok (.ishr, 1) := by decide +kernel
theorem dX9_envoy_97 : decode cX9_envoy 97 = .ok (.iconst 1, 1) := by decide +kernel
theorem dX9_envoy_98 : decode cX9_envoy 98 = .ok (.iand, 1) := by decide +kernel
theorem dX9_envoy_99 : decode cX9_envoy 99 = .ok (.ireturn, 1) := by decide +kernel
theorem dX9_envoy_100 : decode cX9_envoy 100 = .ok (.bipush (-2), 2) := by decide +kernel
theorem dX9_envoy_102 : decode cX9_envoy 102 = .ok (.ireturn, 1) := by decide +kernel
theorem dX9_clause_0 : decode cX9_clause 0 = .ok (.aload_n 0, 1) := by decide +kernel
theorem dX9_clause_1 : decode cX9_clause 1 = .ok (.iconst 0, 1) := by decide +kernel
theorem dX9_clause_2 : decode cX9_clause 2 = .ok (.putfield 53, 3) := by decide +kernel
theorem dX9_clause_5 : decode cX9_clause 5 = .ok (.aload_n 0, 1) := by decide +kernel
theorem dX9_clause_6 : decode cX9_clause 6 = .ok (.iload_n 1, 1) := by decide +kernel
theorem dX9_clause_7 : decode cX9_clause 7 = .ok (.invokevirtual 132, 3) := by decide +kernel
theorem dX9_clause_10 : decode cX9_clause 10 = .ok (.ifCond .eq 5, 3) := by decide +kernel
theorem dX9_clause_13 : decode cX9_clause 13 = .ok (.iconst (-1), 1) := by decide +kernel
theorem dX9_clause_14 : decode cX9_clause 14 = .ok (.ireturn, 1) := by decide +kernel
theorem dX9_clause_15 : decode cX9_clause 15 = .ok (.iload_n 2, 1) := by decide +kernel
theorem dX9_clause_16 : decode cX9_clause 16 = .ok (.i2l, 1) := by decide +kernel
theorem dX9_clause_17 : decode cX9_clause 17 = .ok (.lconst 0, 1) := by decide +kernel
theorem dX9_clause_18 : decode cX9_clause 18 = .ok (.ldc2_w 135, 3) := by decide +kernel
theorem dX9_clause_21 : decode cX9_clause 21 = .ok (.invokestatic 60, 3) := by decide +kernel
theorem dX9_clause_24 : decode cX9_clause 24 = .ok (.ifCond .eq 16, 3) := by decide +kernel
theorem dX9_clause_27 : decode cX9_clause 27 = .ok (.aload_n 0, 1) := by decide +kernel
theorem dX9_clause_28 : decode cX9_clause 28 = .ok (.getfield 16, 3) := by decide +kernel
theorem dX9_clause_31 : decode cX9_clause 31 = .ok (.iconst 3, 1) := by decide +kernel
theorem dX9_clause_32 : decode cX9_clause 32 = .ok (.iload_n 1, 1) := by decide +kernel
theorem dX9_clause_33 : decode cX9_clause 33 = .ok (.imul, 1) := by decide +kernel
theorem dX9_clause_34 : decode cX9_clause 34 = .ok (.iload_n 2, 1) := by decide +kernel
theorem dX9_clause_35 : decode cX9_clause 35 = .ok (.iadd, 1) := by decide +kernel
theorem dX9_clause_36 : decode cX9_clause 36 = .ok (.iaload, 1) := by decide +kernel
theorem dX9_clause_37 : decode cX9_clause 37 = .ok (.goto 18, 3) := by decide +kernel
theorem dX9_clause_40 : decode cX9_clause 40 = .ok (.iload_n 2, 1) := by decide +kernel
theorem dX9_clause_41 : decode cX9_clause 41 = .ok (.iconst 3, 1) := by decide +kernel
theorem dX9_clause_42 : decode cX9_clause 42 = .ok (.if_icmp .ne 11, 3) := by decide +kernel
theorem dX9_clause_45 : decode cX9_clause 45 = .ok (.aload_n 0, 1) := by decide +kernel
theorem dX9_clause_46 : decode cX9_clause 46 = .ok (.iload_n 1, 1) := by decide +kernel
theorem dX9_clause_47 : decode cX9_clause 47 = .ok (.invokevirtual 137, 3) := by decide +kernel
theorem dX9_clause_50 : decode cX9_clause 50 = .ok (.goto 5, 3) := by decide +kernel
theorem dX9_clause_53 : decode cX9_clause 53 = .ok (.bipush (-2), 2) := by decide +kernel
theorem dX9_clause_55 : decode cX9_clause 55 = .ok (.ireturn, 1) := by decide +kernel
theorem dX9_note_0 : decode cX9_note 0 = .ok (.aload_n 0, 1) := by decide +kernel
theorem dX9_note_1 : decode cX9_note 1 = .ok (.getfield 103, 3) := by decide +kernel
theorem dX9_note_4 : decode cX9_note 4 = .ok (.bipush 14, 2) := by decide +kernel
theorem dX9_note_6 : decode cX9_note 6 = .ok (.if_icmp .ne 43, 3) := by decide +kernel
theorem dX9_note_9 : decode cX9_note 9 = .ok (.iconst 0, 1) := by decide +kernel
theorem dX9_note_10 : decode cX9_note 10 = .ok (.istore_n 1, 1) := by decide +kernel
theorem dX9_note_11 : decode cX9_note 11 = .ok (.iload_n 1, 1) := by decide +kernel
theorem dX9_note_12 : decode cX9_note 12 = .ok (.sipush 130, 3) := by decide +kernel
theorem dX9_note_15 : decode cX9_note 15 = .ok (.if_icmp .ge 24, 3) := by decide +kernel
theorem dX9_note_18 : decode cX9_note 18 = .ok (.aload_n 0, 1) := by decide +kernel
theorem dX9_note_19 : decode cX9_note 19 = .ok (.getfield 31, 3) := by decide +kernel
theorem dX9_note_22 : decode cX9_note 22 = .ok (.iload_n 1, 1) := by decide +kernel
theorem dX9_note_23 : decode cX9_note 23 = .ok (.aload_n 0, 1) := by decide +kernel
theorem dX9_note_24 : decode cX9_note 24 = .ok (.getfield 31, 3) := by decide +kernel
theorem dX9_note_27 : decode cX9_note 27 = .ok (.iload_n 1, 1) := by decide +kernel
theorem dX9_note_28 : decode cX9_note 28 = .ok (.bipush 10, 2) := by decide +kernel
theorem dX9_note_30 : decode cX9_note 30 = .ok (.iadd, 1) := by decide +kernel
theorem dX9_note_31 : decode cX9_note 31 = .ok (.iaload, 1) := by decide +kernel
theorem dX9_note_32 : decode cX9_note 32 = .ok (.iastore, 1) := by decide +kernel
theorem dX9_note_33 : decode cX9_note 33 = .ok (.iinc 1 1, 3) := by decide +kernel
theorem dX9_note_36 : decode cX9_note 36 = .ok (.goto (-25), 3) := by decide +kernel
theorem dX9_note_39 : decode cX9_note 39 = .ok (.aload_n 0, 1) := by decide +kernel
theorem dX9_note_40 : decode cX9_note 40 = .ok (.dup, 1) := by decide +kernel
theorem dX9_note_41 : decode cX9_note 41 = .ok (.getfield 103, 3) := by decide +kernel
theorem dX9_note_44 : decode cX9_note 44 = .ok (.iconst 1, 1) := by decide +kernel
theorem dX9_note_45 : decode cX9_note 45 = .ok (.isub, 1) := by decide +kernel
theorem dX9_note_46 : decode cX9_note 46 = .ok (.putfield 103, 3) := by decide +kernel
theorem dX9_note_49 : decode cX9_note 49 = .ok (.iconst 0, 1) := by decide +kernel
theorem dX9_note_50 : decode cX9_note 50 = .ok (.istore_n 1, 1) := by decide +kernel
theorem dX9_note_51 : decode cX9_note 51 = .ok (.iload_n 1, 1) := by decide +kernel
theorem dX9_note_52 : decode cX9_note 52 = .ok (.bipush 10, 2) := by decide +kernel
theorem dX9_note_54 : decode cX9_note 54 = .ok (.if_icmp .ge 29, 3) := by decide +kernel
theorem dX9_note_57 : decode cX9_note 57 = .ok (.aload_n 0, 1) := by decide +kernel
theorem dX9_note_58 : decode cX9_note 58 = .ok (.getfield 31, 3) := by decide +kernel
theorem dX9_note_61 : decode cX9_note 61 = .ok (.bipush 10, 2) := by decide +kernel
theorem dX9_note_63 : decode cX9_note 63 = .ok (.aload_n 0, 1) := by decide +kernel
theorem dX9_note_64 : decode cX9_note 64 = .ok (.getfield 103, 3) := by decide +kernel
theorem dX9_note_67 : decode cX9_note 67 = .ok (.imul, 1) := by decide +kernel
theorem dX9_note_68 : decode cX9_note 68 = .ok (.iload_n 1, 1) := by decide +kernel
theorem dX9_note_69 : decode cX9_note 69 = .ok (.iadd, 1) := by decide +kernel
theorem dX9_note_70 : decode cX9_note 70 = .ok (.aload_n 0, 1) := by decide +kernel
theorem dX9_note_71 : decode cX9_note 71 = .ok (.getfield 25, 3) := by decide +kernel
theorem dX9_note_74 : decode cX9_note 74 = .ok (.iload_n 1, 1) := by decide +kernel
theorem dX9_note_75 : decode cX9_note 75 = .ok (.iaload, 1) := by decide +kernel
theorem dX9_note_76 : decode cX9_note 76 = .ok (.iastore, 1) := by decide +kernel
theorem dX9_note_77 : decode cX9_note 77 = .ok (.iinc 1 1, 3) := by decide +kernel
theorem dX9_note_80 : decode cX9_note 80 = .ok (.goto (-29), 3) := by decide +kernel
theorem dX9_note_83 : decode cX9_note 83 = .ok (.aload_n 0, 1) := by decide +kernel
theorem dX9_note_84 : decode cX9_note 84 = .ok (.dup, 1) := by decide +kernel
theorem dX9_note_85 : decode cX9_note 85 = .ok (.getfield 103, 3) := by decide +kernel
theorem dX9_note_88 : decode cX9_note 88 = .ok (.iconst 1, 1) := by decide +kernel
theorem dX9_note_89 : decode cX9_note 89 = .ok (.iadd, 1) := by decide +kernel
theorem dX9_note_90 : decode cX9_note 90 = .ok (.putfield 103, 3) := by decide +kernel
theorem dX9_note_93 : decode cX9_note 93 = .ok (.return_, 1) := by decide +kernel
theorem dX9_bite_0 : decode cX9_bite 0 = .ok (.aload_n 0, 1) := by decide +kernel
theorem dX9_bite_1 : decode cX9_bite 1 = .ok (.iconst 0, 1) := by decide +kernel
theorem dX9_bite_2 : decode cX9_bite 2 = .ok (.putfield 53, 3) := by decide +kernel
theorem dX9_bite_5 : decode cX9_bite 5 = .ok (.aload_n 0, 1) := by decide +kernel
theorem dX9_bite_6 : decode cX9_bite 6 = .ok (.getfield 25, 3) := by decide +kernel
theorem dX9_bite_9 : decode cX9_bite 9 = .ok (.bipush 6, 2) := by decide +kernel
theorem dX9_bite_11 : decode cX9_bite 11 = .ok (.iaload, 1) := by decide +kernel
theorem dX9_bite_12 : decode cX9_bite 12 = .ok (.ifCond .ne 6, 3) := by decide +kernel
theorem dX9_bite_15 : decode cX9_bite 15 = .ok (.bipush (-3), 2) := by decide +kernel
theorem dX9_bite_17 : decode cX9_bite 17 = .ok (.ireturn, 1) := by decide +kernel
theorem dX9_bite_18 : decode cX9_bite 18 = .ok (.aload_n 0, 1) := by decide +kernel
theorem dX9_bite_19 : decode cX9_bite 19 = .ok (.invokevirtual 141, 3) := by decide +kernel
theorem dX9_bite_22 : decode cX9_bite 22 = .ok (.aload_n 0, 1) := by decide +kernel
theorem dX9_bite_23 : decode cX9_bite 23 = .ok (.aload_n 0, 1) := by decide +kernel
theorem dX9_bite_24 : decode cX9_bite 24 = .ok (.getfield 25, 3) := by decide +kernel
theorem dX9_bite_27 : decode cX9_bite 27 = .ok (.invokevirtual 144, 3) := by decide +kernel
theorem dX9_bite_30 : decode cX9_bite 30 = .ok (.aload_n 0, 1) := by decide +kernel
theorem dX9_bite_31 : decode cX9_bite 31 = .ok (.getfield 25, 3) := by decide +kernel
theorem dX9_bite_34 : decode cX9_bite 34 = .ok (.bipush 6, 2) := by decide +kernel
theorem dX9_bite_36 : decode cX9_bite 36 = .ok (.iaload, 1) := by decide +kernel
theorem dX9_bite_37 : decode cX9_bite 37 = .ok (.ireturn, 1) := by decide +kernel
theorem dX9_say_0 : decode cX9_say 0 = .ok (.aload_n 0, 1) := by decide +kernel
theorem dX9_say_1 : decode cX9_say 1 = .ok (.iconst 0, 1) := by decide +kernel
theorem dX9_say_2 : decode cX9_say 2 = .ok (.putfield 53, 3) := by decide +kernel
theorem dX9_say_5 : decode cX9_say 5 = .ok (.aload_n 0, 1) := by decide +kernel
theorem dX9_say_6 : decode cX9_say 6 = .ok (.iload_n 1, 1) := by decide +kernel
theorem dX9_say_7 : decode cX9_say 7 = .ok (.invokevirtual 132, 3) := by decide +kernel
theorem dX9_say_10 : decode cX9_say 10 = .ok (.ifCond .eq 5, 3) := by decide +kernel
theorem dX9_say_13 : decode cX9_say 13 = .ok (.iconst (-1), 1) := by decide +kernel
theorem dX9_say_14 : decode cX9_say 14 = .ok (.ireturn, 1) := by decide +kernel
theorem dX9_say_15 : decode cX9_say 15 = .ok (.aload_n 0, 1) := by decide +kernel
theorem dX9_say_16 : decode cX9_say 16 = .ok (.aload_n 0, 1) := by decide +kernel
theorem dX9_say_17 : decode cX9_say 17 = .ok (.getfield 25, 3) := by decide +kernel
theorem dX9_say_20 : decode cX9_say 20 = .ok (.iload_n 1, 1) := by decide +kernel
theorem dX9_say_21 : decode cX9_say 21 = .ok (.invokevirtual 114, 3) := by decide +kernel
theorem dX9_say_24 : decode cX9_say 24 = .ok (.ifCond .ne 6, 3) := by decide +kernel
theorem dX9_say_27 : decode cX9_say 27 = .ok (.bipush (-3), 2) := by decide +kernel
theorem dX9_say_29 : decode cX9_say 29 = .ok (.ireturn, 1) := by decide +kernel
theorem dX9_say_30 : decode cX9_say 30 = .ok (.aload_n 0, 1) := by decide +kernel
theorem dX9_say_31 : decode cX9_say 31 = .ok (.invokevirtual 141, 3) := by decide +kernel
theorem dX9_say_34 : decode cX9_say 34 = .ok (.aload_n 0, 1) := by decide +kernel
theorem dX9_say_35 : decode cX9_say 35 = .ok (.getfield 25, 3) := by decide +kernel
theorem dX9_say_38 : decode cX9_say 38 = .ok (.bipush 8, 2) := by decide +kernel
theorem dX9_say_40 : decode cX9_say 40 = .ok (.dup2, 1) := by decide +kernel
theorem dX9_say_41 : decode cX9_say 41 = .ok (.iaload, 1) := by decide +kernel
theorem dX9_say_42 : decode cX9_say 42 = .ok (.iconst 1, 1) := by decide +kernel
theorem dX9_say_43 : decode cX9_say 43 = .ok (.iload_n 1, 1) := by decide +kernel
theorem dX9_say_44 : decode cX9_say 44 = .ok (.ishl, 1) := by decide +kernel
theorem dX9_say_45 : decode cX9_say 45 = .ok (.ior, 1) := by decide +kernel
theorem dX9_say_46 : decode cX9_say 46 = .ok (.iastore, 1) := by decide +kernel
theorem dX9_say_47 : decode cX9_say 47 = .ok (.aload_n 0, 1) := by decide +kernel
theorem dX9_say_48 : decode cX9_say 48 = .ok (.getfield 25, 3) := by decide +kernel
theorem dX9_say_51 : decode cX9_say 51 = .ok (.bipush 8, 2) := by decide +kernel
theorem dX9_say_53 : decode cX9_say 53 = .ok (.iaload, 1) := by decide +kernel
theorem dX9_say_54 : decode cX9_say 54 = .ok (.ireturn, 1) := by decide +kernel
theorem dX9_spice_0 : decode cX9_spice 0 = .ok (.aload_n 0, 1) := by decide +kernel
theorem dX9_spice_1 : decode cX9_spice 1 = .ok (.iconst 0, 1) := by decide +kernel
theorem dX9_spice_2 : decode cX9_spice 2 = .ok (.putfield 53, 3) := by decide +kernel
theorem dX9_spice_5 : decode cX9_spice 5 = .ok (.aload_n 0, 1) := by decide +kernel
theorem dX9_spice_6 : decode cX9_spice 6 = .ok (.getfield 25, 3) := by decide +kernel
theorem dX9_spice_9 : decode cX9_spice 9 = .ok (.iconst 1, 1) := by decide +kernel
theorem dX9_spice_10 : decode cX9_spice 10 = .ok (.iaload, 1) := by decide +kernel
theorem dX9_spice_11 : decode cX9_spice 11 = .ok (.ifCond .ne 6, 3) := by decide +kernel
theorem dX9_spice_14 : decode cX9_spice 14 = .ok (.bipush (-3), 2) := by decide +kernel
theorem dX9_spice_16 : decode cX9_spice 16 = .ok (.ireturn, 1) := by decide +kernel
theorem dX9_spice_17 : decode cX9_spice 17 = .ok (.aload_n 0, 1) := by decide +kernel
theorem dX9_spice_18 : decode cX9_spice 18 = .ok (.invokevirtual 141, 3) := by decide +kernel
theorem dX9_spice_21 : decode cX9_spice 21 = .ok (.aload_n 0, 1) := by decide +kernel
theorem dX9_spice_22 : decode cX9_spice 22 = .ok (.getfield 25, 3) := by decide +kernel
theorem dX9_spice_25 : decode cX9_spice 25 = .ok (.invokestatic 148, 3) := by decide +kernel
theorem dX9_spice_28 : decode cX9_spice 28 = .ok (.aload_n 0, 1) := by decide +kernel
theorem dX9_spice_29 : decode cX9_spice 29 = .ok (.getfield 25, 3) := by decide +kernel
theorem dX9_spice_32 : decode cX9_spice 32 = .ok (.iconst 0, 1) := by decide +kernel
theorem dX9_spice_33 : decode cX9_spice 33 = .ok (.iaload, 1) := by decide +kernel
theorem dX9_spice_34 : decode cX9_spice 34 = .ok (.ireturn, 1) := by decide +kernel
theorem dX9_bread_0 : decode cX9_bread 0 = .ok (.aload_n 0, 1) := by decide +kernel
theorem dX9_bread_1 : decode cX9_bread 1 = .ok (.iconst 0, 1) := by decide +kernel
theorem dX9_bread_2 : decode cX9_bread 2 = .ok (.putfield 53, 3) := by decide +kernel
theorem dX9_bread_5 : decode cX9_bread 5 = .ok (.aload_n 0, 1) := by decide +kernel
theorem dX9_bread_6 : decode cX9_bread 6 = .ok (.iload_n 1, 1) := by decide +kernel
theorem dX9_bread_7 : decode cX9_bread 7 = .ok (.invokevirtual 128, 3) := by decide +kernel
theorem dX9_bread_10 : decode cX9_bread 10 = .ok (.ifCond .eq 5, 3) := by decide +kernel
theorem dX9_bread_13 : decode cX9_bread 13 = .ok (.iconst (-1), 1) := by decide +kernel
theorem dX9_bread_14 : decode cX9_bread 14 = .ok (.ireturn, 1) := by decide +kernel
theorem dX9_bread_15 : decode cX9_bread 15 = .ok (.aload_n 0, 1) := by decide +kernel
theorem dX9_bread_16 : decode cX9_bread 16 = .ok (.getfield 25, 3) := by decide +kernel
theorem dX9_bread_19 : decode cX9_bread 19 = .ok (.bipush 6, 2) := by decide +kernel
theorem dX9_bread_21 : decode cX9_bread 21 = .ok (.iaload, 1) := by decide +kernel
theorem dX9_bread_22 : decode cX9_bread 22 = .ok (.iload_n 1, 1) := by decide +kernel
theorem dX9_bread_23 : decode cX9_bread 23 = .ok (.invokestatic 110, 3) := by decide +kernel
theorem dX9_bread_26 : decode cX9_bread 26 = .ok (.ifCond .eq 17, 3) := by decide +kernel
theorem dX9_bread_29 : decode cX9_bread 29 = .ok (.aload_n 0, 1) := by decide +kernel
theorem dX9_bread_30 : decode cX9_bread 30 = .ok (.getfield 25, 3) := by decide +kernel
theorem dX9_bread_33 : decode cX9_bread 33 = .ok (.bipush 7, 2) := by decide +kernel
theorem dX9_bread_35 : decode cX9_bread 35 = .ok (.iaload, 1) := by decide +kernel
theorem dX9_bread_36 : decode cX9_bread 36 = .ok (.iload_n 1, 1) := by decide +kernel
theorem dX9_bread_37 : decode cX9_bread 37 = .ok (.invokestatic 110, 3) := by decide +kernel
theorem dX9_bread_40 : decode cX9_bread 40 = .ok (.ifCond .eq 6, 3) := by decide +kernel
theorem dX9_bread_43 : decode cX9_bread 43 = .ok (.bipush (-3), 2) := by decide +kernel
theorem dX9_bread_45 : decode cX9_bread 45 = .ok (.ireturn, 1) := by decide +kernel
theorem dX9_bread_46 : decode cX9_bread 46 = .ok (.aload_n 0, 1) := by decide +kernel
theorem dX9_bread_47 : decode cX9_bread 47 = .ok (.invokevirtual 141, 3) := by decide +kernel
theorem dX9_bread_50 : decode cX9_bread 50 = .ok (.aload_n 0, 1) := by decide +kernel
theorem dX9_bread_51 : decode cX9_bread 51 = .ok (.getfield 25, 3) := by decide +kernel
theorem dX9_bread_54 : decode cX9_bread 54 = .ok (.iconst 2, 1) := by decide +kernel
theorem dX9_bread_55 : decode cX9_bread 55 = .ok (.iload_n 1, 1) := by decide +kernel
theorem dX9_bread_56 : decode cX9_bread 56 = .ok (.iadd, 1) := by decide +kernel
theorem dX9_bread_57 : decode cX9_bread 57 = .ok (.aload_n 0, 1) := by decide +kernel
theorem dX9_bread_58 : decode cX9_bread 58 = .ok (.getfield 25, 3) := by decide +kernel
theorem dX9_bread_61 : decode cX9_bread 61 = .ok (.iconst 2, 1) := by decide +kernel
theorem dX9_bread_62 : decode cX9_bread 62 = .ok (.iload_n 1, 1) := by decide +kernel
theorem dX9_bread_63 : decode cX9_bread 63 = .ok (.iadd, 1) := by decide +kernel
theorem dX9_bread_64 : decode cX9_bread 64 = .ok (.iaload, 1) := by decide +kernel
theorem dX9_bread_65 : decode cX9_bread 65 = .ok (.iconst 3, 1) := by decide +kernel
theorem dX9_bread_66 : decode cX9_bread 66 = .ok (.if_icmp .ge 7, 3) := by decide +kernel
theorem dX9_bread_69 : decode cX9_bread 69 = .ok (.iconst 0, 1) := by decide +kernel
theorem dX9_bread_70 : decode cX9_bread 70 = .ok (.goto 13, 3) := by decide +kernel
theorem dX9_bread_73 : decode cX9_bread 73 = .ok (.aload_n 0, 1) := by decide +kernel
theorem dX9_bread_74 : decode cX9_bread 74 = .ok (.getfield 25, 3) := by decide +kernel
theorem dX9_bread_77 : decode cX9_bread 77 = .ok (.iconst 2, 1) := by decide +kernel
theorem dX9_bread_78 : decode cX9_bread 78 = .ok (.iload_n 1, 1) := by decide +kernel
theorem dX9_bread_79 : decode cX9_bread 79 = .ok (.iadd, 1) := by decide +kernel
theorem dX9_bread_80 : decode cX9_bread 80 = .ok (.iaload, 1) := by decide +kernel
theorem dX9_bread_81 : decode cX9_bread 81 = .ok (.iconst 3, 1) := by decide +kernel
theorem dX9_bread_82 : decode cX9_bread 82 = .ok (.isub, 1) := by decide +kernel
theorem dX9_bread_83 : decode cX9_bread 83 = .ok (.iastore, 1) := by decide +kernel
theorem dX9_bread_84 : decode cX9_bread 84 = .ok (.aload_n 0, 1) := by decide +kernel
theorem dX9_bread_85 : decode cX9_bread 85 = .ok (.getfield 25, 3) := by decide +kernel
theorem dX9_bread_88 : decode cX9_bread 88 = .ok (.bipush 7, 2) := by decide +kernel
theorem dX9_bread_90 : decode cX9_bread 90 = .ok (.dup2, 1) := by decide +kernel
theorem dX9_bread_91 : decode cX9_bread 91 = .ok (.iaload, 1) := by decide +kernel
theorem dX9_bread_92 : decode cX9_bread 92 = .ok (.iconst 1, 1) := by decide +kernel
theorem dX9_bread_93 : decode cX9_bread 93 = .ok (.iload_n 1, 1) := by decide +kernel
theorem dX9_bread_94 : decode cX9_bread 94 = .ok (.ishl, 1) := by decide +kernel
theorem dX9_bread_95 : decode cX9_bread 95 = .ok (.ior, 1) := by decide +kernel
theorem dX9_bread_96 : decode cX9_bread 96 = .ok (.iastore, 1) := by decide +kernel
theorem dX9_bread_97 : decode cX9_bread 97 = .ok (.aload_n 0, 1) := by decide +kernel
theorem dX9_bread_98 : decode cX9_bread 98 = .ok (.getfield 25, 3) := by decide +kernel
theorem dX9_bread_101 : decode cX9_bread 101 = .ok (.iconst 2, 1) := by decide +kernel
theorem dX9_bread_102 : decode cX9_bread 102 = .ok (.iload_n 1, 1) := by decide +kernel
theorem dX9_bread_103 : decode cX9_bread 103 = .ok (.iadd, 1) := by decide +kernel
theorem dX9_bread_104 : decode cX9_bread 104 = .ok (.iaload, 1) := by decide +kernel
theorem dX9_bread_105 : decode cX9_bread 105 = .ok (.ireturn, 1) := by decide +kernel
theorem dX9_undo_0 : decode cX9_undo 0 = .ok (.aload_n 0, 1) := by decide +kernel
theorem dX9_undo_1 : decode cX9_undo 1 = .ok (.iconst 0, 1) := by decide +kernel
theorem dX9_undo_2 : decode cX9_undo 2 = .ok (.putfield 53, 3) := by decide +kernel
theorem dX9_undo_5 : decode cX9_undo 5 = .ok (.aload_n 0, 1) := by decide +kernel
theorem dX9_undo_6 : decode cX9_undo 6 = .ok (.getfield 103, 3) := by decide +kernel
theorem dX9_undo_9 : decode cX9_undo 9 = .ok (.ifCond .ne 6, 3) := by decide +kernel
theorem dX9_undo_12 : decode cX9_undo 12 = .ok (.bipush (-3), 2) := by decide +kernel
theorem dX9_undo_14 : decode cX9_undo 14 = .ok (.ireturn, 1) := by decide +kernel
theorem dX9_undo_15 : decode cX9_undo 15 = .ok (.aload_n 0, 1) := by decide +kernel
theorem dX9_undo_16 : decode cX9_undo 16 = .ok (.dup, 1) := by decide +kernel
theorem dX9_undo_17 : decode cX9_undo 17 = .ok (.getfield 103, 3) := by decide +kernel
theorem dX9_undo_20 : decode cX9_undo 20 = .ok (.iconst 1, 1) := by decide +kernel
theorem dX9_undo_21 : decode cX9_undo 21 = .ok (.isub, 1) := by decide +kernel
theorem dX9_undo_22 : decode cX9_undo 22 = .ok (.putfield 103, 3) := by decide +kernel
theorem dX9_undo_25 : decode cX9_undo 25 = .ok (.iconst 0, 1) := by decide +kernel
theorem dX9_undo_26 : decode cX9_undo 26 = .ok (.istore_n 1, 1) := by decide +kernel
theorem dX9_undo_27 : decode cX9_undo 27 = .ok (.iload_n 1, 1) := by decide +kernel
theorem dX9_undo_28 : decode cX9_undo 28 = .ok (.bipush 10, 2) := by decide +kernel
theorem dX9_undo_30 : decode cX9_undo 30 = .ok (.if_icmp .ge 29, 3) := by decide +kernel
theorem dX9_undo_33 : decode cX9_undo 33 = .ok (.aload_n 0, 1) := by decide +kernel
theorem dX9_undo_34 : decode cX9_undo 34 = .ok (.getfield 25, 3) := by decide +kernel
theorem dX9_undo_37 : decode cX9_undo 37 = .ok (.iload_n 1, 1) := by decide +kernel
theorem dX9_undo_38 : decode cX9_undo 38 = .ok (.aload_n 0, 1) := by decide +kernel
theorem dX9_undo_39 : decode cX9_undo 39 = .ok (.getfield 31, 3) := by decide +kernel
theorem dX9_undo_42 : decode cX9_undo 42 = .ok (.bipush 10, 2) := by decide +kernel
theorem dX9_undo_44 : decode cX9_undo 44 = .ok (.aload_n 0, 1) := by decide +kernel
theorem dX9_undo_45 : decode cX9_undo 45 = .ok (.getfield 103, 3) := by decide +kernel
theorem dX9_undo_48 : decode cX9_undo 48 = .ok (.imul, 1) := by decide +kernel
theorem dX9_undo_49 : decode cX9_undo 49 = .ok (.iload_n 1, 1) := by decide +kernel
theorem dX9_undo_50 : decode cX9_undo 50 = .ok (.iadd, 1) := by decide +kernel
theorem dX9_undo_51 : decode cX9_undo 51 = .ok (.iaload, 1) := by decide +kernel
theorem dX9_undo_52 : decode cX9_undo 52 = .ok (.iastore, 1) := by decide +kernel
theorem dX9_undo_53 : decode cX9_undo 53 = .ok (.iinc 1 1, 3) := by decide +kernel
theorem dX9_undo_56 : decode cX9_undo 56 = .ok (.goto (-29), 3) := by decide +kernel
theorem dX9_undo_59 : decode cX9_undo 59 = .ok (.aload_n 0, 1) := by decide +kernel
theorem dX9_undo_60 : decode cX9_undo 60 = .ok (.getfield 103, 3) := by decide +kernel
theorem dX9_undo_63 : decode cX9_undo 63 = .ok (.ireturn, 1) := by decide +kernel
theorem dX9_begin_0 : decode cX9_begin 0 = .ok (.iconst 0, 1) := by decide +kernel
theorem dX9_begin_1 : decode cX9_begin 1 = .ok (.istore_n 1, 1) := by decide +kernel
theorem dX9_begin_2 : decode cX9_begin 2 = .ok (.iload_n 1, 1) := by decide +kernel
theorem dX9_begin_3 : decode cX9_begin 3 = .ok (.bipush 10, 2) := by decide +kernel
theorem dX9_begin_5 : decode cX9_begin 5 = .ok (.if_icmp .ge 21, 3) := by decide +kernel
theorem dX9_begin_8 : decode cX9_begin 8 = .ok (.aload_n 0, 1) := by decide +kernel
theorem dX9_begin_9 : decode cX9_begin 9 = .ok (.getfield 28, 3) := by decide +kernel
theorem dX9_begin_12 : decode cX9_begin 12 = .ok (.iload_n 1, 1) := by decide +kernel
theorem dX9_begin_13 : decode cX9_begin 13 = .ok (.aload_n 0, 1) := by decide +kernel
theorem dX9_begin_14 : decode cX9_begin 14 = .ok (.getfield 25, 3) := by decide +kernel
theorem dX9_begin_17 : decode cX9_begin 17 = .ok (.iload_n 1, 1) := by decide +kernel
theorem dX9_begin_18 : decode cX9_begin 18 = .ok (.iaload, 1) := by decide +kernel
theorem dX9_begin_19 : decode cX9_begin 19 = .ok (.iastore, 1) := by decide +kernel
theorem dX9_begin_20 : decode cX9_begin 20 = .ok (.iinc 1 1, 3) := by decide +kernel
theorem dX9_begin_23 : decode cX9_begin 23 = .ok (.goto (-21), 3) := by decide +kernel
theorem dX9_begin_26 : decode cX9_begin 26 = .ok (.return_, 1) := by decide +kernel
theorem dX9_till_0 : decode cX9_till 0 = .ok (.aload_n 0, 1) := by decide +kernel
theorem dX9_till_1 : decode cX9_till 1 = .ok (.invokevirtual 151, 3) := by decide +kernel
theorem dX9_till_4 : decode cX9_till 4 = .ok (.iconst 0, 1) := by decide +kernel
theorem dX9_till_5 : decode cX9_till 5 = .ok (.istore_n 2, 1) := by decide +kernel
theorem dX9_till_6 : decode cX9_till 6 = .ok (.iload_n 2, 1) := by decide +kernel
theorem dX9_till_7 : decode cX9_till 7 = .ok (.bipush 60, 2) := by decide +kernel
theorem dX9_till_9 : decode cX9_till 9 = .ok (.if_icmp .ge 29, 3) := by decide +kernel
theorem dX9_till_12 : decode cX9_till 12 = .ok (.aload_n 0, 1) := by decide +kernel
theorem dX9_till_13 : decode cX9_till 13 = .ok (.getfield 28, 3) := by decide +kernel
theorem dX9_till_16 : decode cX9_till 16 = .ok (.bipush 6, 2) := by decide +kernel
theorem dX9_till_18 : decode cX9_till 18 = .ok (.iaload, 1) := by decide +kernel
theorem dX9_till_19 : decode cX9_till 19 = .ok (.iload_n 1, 1) := by decide +kernel
theorem dX9_till_20 : decode cX9_till 20 = .ok (.iand, 1) := by decide +kernel
theorem dX9_till_21 : decode cX9_till 21 = .ok (.ifCond .eq 17, 3) := by decide +kernel
theorem dX9_till_24 : decode cX9_till 24 = .ok (.aload_n 0, 1) := by decide +kernel
theorem dX9_till_25 : decode cX9_till 25 = .ok (.aload_n 0, 1) := by decide +kernel
theorem dX9_till_26 : decode cX9_till 26 = .ok (.getfield 28, 3) := by decide +kernel
theorem dX9_till_29 : decode cX9_till 29 = .ok (.invokevirtual 144, 3) := by decide +kernel
theorem dX9_till_32 : decode cX9_till 32 = .ok (.iinc 2 1, 3) := by decide +kernel
theorem dX9_till_35 : decode cX9_till 35 = .ok (.goto (-29), 3) := by decide +kernel
theorem dX9_till_38 : decode cX9_till 38 = .ok (.aload_n 0, 1) := by decide +kernel
theorem dX9_till_39 : decode cX9_till 39 = .ok (.getfield 28, 3) := by decide +kernel
theorem dX9_till_42 : decode cX9_till 42 = .ok (.bipush 6, 2) := by decide +kernel
theorem dX9_till_44 : decode cX9_till 44 = .ok (.iaload, 1) := by decide +kernel
theorem dX9_till_45 : decode cX9_till 45 = .ok (.iload_n 1, 1) := by decide +kernel
theorem dX9_till_46 : decode cX9_till 46 = .ok (.iand, 1) := by decide +kernel
theorem dX9_till_47 : decode cX9_till 47 = .ok (.ifCond .eq 8, 3) := by decide +kernel
theorem dX9_till_50 : decode cX9_till 50 = .ok (.bipush (-9), 2) := by decide +kernel
theorem dX9_till_52 : decode cX9_till 52 = .ok (.goto 4, 3) := by decide +kernel
theorem dX9_till_55 : decode cX9_till 55 = .ok (.iload_n 2, 1) := by decide +kernel
theorem dX9_till_56 : decode cX9_till 56 = .ok (.ireturn, 1) := by decide +kernel
theorem dX9_lasts_0 : decode cX9_lasts 0 = .ok (.aload_n 0, 1) := by decide +kernel
theorem dX9_lasts_1 : decode cX9_lasts 1 = .ok (.iconst 0, 1) := by decide +kernel
theorem dX9_lasts_2 : decode cX9_lasts 2 = .ok (.putfield 53, 3) := by decide +kernel
theorem dX9_lasts_5 : decode cX9_lasts 5 = .ok (.aload_n 0, 1) := by decide +kernel
theorem dX9_lasts_6 : decode cX9_lasts 6 = .ok (.bipush 15, 2) := by decide +kernel
theorem dX9_lasts_8 : decode cX9_lasts 8 = .ok (.invokevirtual 154, 3) := by decide +kernel
theorem dX9_lasts_11 : decode cX9_lasts 11 = .ok (.ireturn, 1) := by decide +kernel
theorem dX9_bears_0 : decode cX9_bears 0 = .ok (.aload_n 0, 1) := by decide +kernel
theorem dX9_bears_1 : decode cX9_bears 1 = .ok (.iconst 0, 1) := by decide +kernel
theorem dX9_bears_2 : decode cX9_bears 2 = .ok (.putfield 53, 3) := by decide +kernel
theorem dX9_bears_5 : decode cX9_bears 5 = .ok (.aload_n 0, 1) := by decide +kernel
theorem dX9_bears_6 : decode cX9_bears 6 = .ok (.iload_n 1, 1) := by decide +kernel
theorem dX9_bears_7 : decode cX9_bears 7 = .ok (.invokevirtual 128, 3) := by decide +kernel
theorem dX9_bears_10 : decode cX9_bears 10 = .ok (.ifCond .eq 5, 3) := by decide +kernel
theorem dX9_bears_13 : decode cX9_bears 13 = .ok (.iconst (-1), 1) := by decide +kernel
theorem dX9_bears_14 : decode cX9_bears 14 = .ok (.ireturn, 1) := by decide +kernel
theorem dX9_bears_15 : decode cX9_bears 15 = .ok (.aload_n 0, 1) := by decide +kernel
theorem dX9_bears_16 : decode cX9_bears 16 = .ok (.getfield 25, 3) := by decide +kernel
theorem dX9_bears_19 : decode cX9_bears 19 = .ok (.bipush 6, 2) := by decide +kernel
theorem dX9_bears_21 : decode cX9_bears 21 = .ok (.iaload, 1) := by decide +kernel
theorem dX9_bears_22 : decode cX9_bears 22 = .ok (.iload_n 1, 1) := by decide +kernel
theorem dX9_bears_23 : decode cX9_bears 23 = .ok (.invokestatic 110, 3) := by decide +kernel
theorem dX9_bears_26 : decode cX9_bears 26 = .ok (.ifCond .eq 13, 3) := by decide +kernel
theorem dX9_bears_29 : decode cX9_bears 29 = .ok (.aload_n 0, 1) := by decide +kernel
theorem dX9_bears_30 : decode cX9_bears 30 = .ok (.iconst 1, 1) := by decide +kernel
theorem dX9_bears_31 : decode cX9_bears 31 = .ok (.iload_n 1, 1) := by decide +kernel
theorem dX9_bears_32 : decode cX9_bears 32 = .ok (.ishl, 1) := by decide +kernel
theorem dX9_bears_33 : decode cX9_bears 33 = .ok (.invokevirtual 154, 3) := by decide +kernel
theorem dX9_bears_36 : decode cX9_bears 36 = .ok (.goto 5, 3) := by decide +kernel
theorem dX9_bears_39 : decode cX9_bears 39 = .ok (.bipush (-3), 2) := by decide +kernel
theorem dX9_bears_41 : decode cX9_bears 41 = .ok (.ireturn, 1) := by decide +kernel
theorem dX9_power_0 : decode cX9_power 0 = .ok (.iconst 1, 1) := by decide +kernel
theorem dX9_power_1 : decode cX9_power 1 = .ok (.istore_n 2, 1) := by decide +kernel
theorem dX9_power_2 : decode cX9_power 2 = .ok (.iconst 0, 1) := by decide +kernel
theorem dX9_power_3 : decode cX9_power 3 = .ok (.istore_n 3, 1) := by decide +kernel
theorem dX9_power_4 : decode cX9_power 4 = .ok (.iload_n 3, 1) := by decide +kernel
theorem dX9_power_5 : decode cX9_power 5 = .ok (.iload_n 1, 1) := by decide +kernel
theorem dX9_power_6 : decode cX9_power 6 = .ok (.if_icmp .ge 13, 3) := by decide +kernel
theorem dX9_power_9 : decode cX9_power 9 = .ok (.iload_n 2, 1) := by decide +kernel
theorem dX9_power_10 : decode cX9_power 10 = .ok (.iload_n 0, 1) := by decide +kernel
theorem dX9_power_11 : decode cX9_power 11 = .ok (.imul, 1) := by decide +kernel
theorem dX9_power_12 : decode cX9_power 12 = .ok (.istore_n 2, 1) := by decide +kernel
theorem dX9_power_13 : decode cX9_power 13 = .ok (.iinc 3 1, 3) := by decide +kernel
theorem dX9_power_16 : decode cX9_power 16 = .ok (.goto (-12), 3) := by decide +kernel
theorem dX9_power_19 : decode cX9_power 19 = .ok (.iload_n 2, 1) := by decide +kernel
theorem dX9_power_20 : decode cX9_power 20 = .ok (.ireturn, 1) := by decide +kernel
theorem dX9_findBest_0 : decode cX9_findBest 0 = .ok (.aload_n 0, 1) := by decide +kernel
theorem dX9_findBest_1 : decode cX9_findBest 1 = .ok (.bipush (-9), 2) := by decide +kernel
theorem dX9_findBest_3 : decode cX9_findBest 3 = .ok (.putfield 157, 3) := by decide +kernel
theorem dX9_findBest_6 : decode cX9_findBest 6 = .ok (.aload_n 0, 1) := by decide +kernel
theorem dX9_findBest_7 : decode cX9_findBest 7 = .ok (.bipush (-9), 2) := by decide +kernel
theorem dX9_findBest_9 : decode cX9_findBest 9 = .ok (.putfield 160, 3) := by decide +kernel
theorem dX9_findBest_12 : decode cX9_findBest 12 = .ok (.iconst 0, 1) := by decide +kernel
theorem dX9_findBest_13 : decode cX9_findBest 13 = .ok (.istore_n 3, 1) := by decide +kernel
theorem dX9_findBest_14 : decode cX9_findBest 14 = .ok (.iload_n 3, 1) := by decide +kernel
theorem dX9_findBest_15 : decode cX9_findBest 15 = .ok (.iconst 1, 1) := by decide +kernel
theorem dX9_findBest_16 : decode cX9_findBest 16 = .ok (.aload_n 0, 1) := by decide +kernel
theorem dX9_findBest_17 : decode cX9_findBest 17 = .ok (.getfield 64, 3) := by decide +kernel
theorem dX9_findBest_20 : decode cX9_findBest 20 = .ok (.iadd, 1) := by decide +kernel
theorem dX9_findBest_21 : decode cX9_findBest 21 = .ok (.iload_n 1, 1) := by decide +kernel
theorem dX9_findBest_22 : decode cX9_findBest 22 = .ok (.invokestatic 163, 3) := by decide +kernel
theorem dX9_findBest_25 : decode cX9_findBest 25 = .ok (.if_icmp .ge 186, 3) := by decide +kernel
theorem dX9_findBest_28 : decode cX9_findBest 28 = .ok (.aload_n 0, 1) := by decide +kernel
theorem dX9_findBest_29 : decode cX9_findBest 29 = .ok (.invokevirtual 151, 3) := by decide +kernel
theorem dX9_findBest_32 : decode cX9_findBest 32 = .ok (.iconst 1, 1) := by decide +kernel
theorem dX9_findBest_33 : decode cX9_findBest 33 = .ok (.istore 4, 2) := by decide +kernel
theorem dX9_findBest_35 : decode cX9_findBest 35 = .ok (.iconst 0, 1) := by decide +kernel
theorem dX9_findBest_36 : decode cX9_findBest 36 = .ok (.istore 5, 2) := by decide +kernel
theorem dX9_findBest_38 : decode cX9_findBest 38 = .ok (.iconst 1, 1) := by decide +kernel
theorem dX9_findBest_39 : decode cX9_findBest 39 = .ok (.istore 6, 2) := by decide +kernel
theorem dX9_findBest_41 : decode cX9_findBest 41 = .ok (.iload_n 1, 1) := by decide +kernel
theorem dX9_findBest_42 : decode cX9_findBest 42 = .ok (.iconst 1, 1) := by decide +kernel
theorem dX9_findBest_43 : decode cX9_findBest 43 = .ok (.isub, 1) := by decide +kernel
theorem dX9_findBest_44 : decode cX9_findBest 44 = .ok (.istore 7, 2) := by decide +kernel
theorem dX9_findBest_46 : decode cX9_findBest 46 = .ok (.iload 7, 2) := by decide +kernel
theorem dX9_findBest_48 : decode cX9_findBest 48 = .ok (.ifCond .lt 131, 3) := by decide +kernel
theorem dX9_findBest_51 : decode cX9_findBest 51 = .ok (.iload 6, 2) := by decide +kernel
theorem dX9_findBest_53 : decode cX9_findBest 53 = .ok (.ifCond .eq 126, 3) := by decide +kernel
theorem dX9_findBest_56 : decode cX9_findBest 56 = .ok (.iload_n 3, 1) := by decide +kernel
theorem dX9_findBest_57 : decode cX9_findBest 57 = .ok (.iconst 1, 1) := by decide +kernel
theorem dX9_findBest_58 : decode cX9_findBest 58 = .ok (.aload_n 0, 1) := by decide +kernel
theorem dX9_findBest_59 : decode cX9_findBest 59 = .ok (.getfield 64, 3) := by decide +kernel
theorem dX9_findBest_62 : decode cX9_findBest 62 = .ok (.iadd, 1) := by decide +kernel
theorem dX9_findBest_63 : decode cX9_findBest 63 = .ok (.iload 7, 2) := by decide +kernel
theorem dX9_findBest_65 : decode cX9_findBest 65 = .ok (.invokestatic 163, 3) := by decide +kernel
theorem dX9_findBest_68 : decode cX9_findBest 68 = .ok (.idiv, 1) := by decide +kernel
theorem dX9_findBest_69 : decode cX9_findBest 69 = .ok (.iconst 1, 1) := by decide +kernel
theorem dX9_findBest_70 : decode cX9_findBest 70 = .ok (.aload_n 0, 1) := by decide +kernel
theorem dX9_findBest_71 : decode cX9_findBest 71 = .ok (.getfield 64, 3) := by decide +kernel
theorem dX9_findBest_74 : decode cX9_findBest 74 = .ok (.iadd, 1) := by decide +kernel
theorem dX9_findBest_75 : decode cX9_findBest 75 = .ok (.irem, 1) := by decide +kernel
theorem dX9_findBest_76 : decode cX9_findBest 76 = .ok (.istore 8, 2) := by decide +kernel
theorem dX9_findBest_78 : decode cX9_findBest 78 = .ok (.bipush 10, 2) := by decide +kernel
theorem dX9_findBest_80 : decode cX9_findBest 80 = .ok (.iload 4, 2) := by decide +kernel
theorem dX9_findBest_82 : decode cX9_findBest 82 = .ok (.imul, 1) := by decide +kernel
theorem dX9_findBest_83 : decode cX9_findBest 83 = .ok (.iload 8, 2) := by decide +kernel
theorem dX9_findBest_85 : decode cX9_findBest 85 = .ok (.iadd, 1) := by decide +kernel
theorem dX9_findBest_86 : decode cX9_findBest 86 = .ok (.istore 4, 2) := by decide +kernel
theorem dX9_findBest_88 : decode cX9_findBest 88 = .ok (.iload 8, 2) := by decide +kernel
theorem dX9_findBest_90 : decode cX9_findBest 90 = .ok (.ifCond .ne 14, 3) := by decide +kernel
theorem dX9_findBest_93 : decode cX9_findBest 93 = .ok (.aload_n 0, 1) := by decide +kernel
theorem dX9_findBest_94 : decode cX9_findBest 94 = .ok (.aload_n 0, 1) := by decide +kernel
theorem dX9_findBest_95 : decode cX9_findBest 95 = .ok (.getfield 28, 3) := by decide +kernel
theorem dX9_findBest_98 : decode cX9_findBest 98 = .ok (.invokevirtual 144, 3) := by decide +kernel
theorem dX9_findBest_101 : decode cX9_findBest 101 = .ok (.goto 72, 3) := by decide +kernel
theorem dX9_findBest_104 : decode cX9_findBest 104 = .ok (.aload_n 0, 1) := by decide +kernel
theorem dX9_findBest_105 : decode cX9_findBest 105 = .ok (.aload_n 0, 1) := by decide +kernel
theorem dX9_findBest_106 : decode cX9_findBest 106 = .ok (.getfield 28, 3) := by decide +kernel
theorem dX9_findBest_109 : decode cX9_findBest 109 = .ok (.iload 8, 2) := by decide +kernel
theorem dX9_findBest_111 : decode cX9_findBest 111 = .ok (.iconst 1, 1) := by decide +kernel
theorem dX9_findBest_112 : decode cX9_findBest 112 = .ok (.isub, 1) := by decide +kernel
theorem dX9_findBest_113 : decode cX9_findBest 113 = .ok (.invokevirtual 114, 3) := by decide +kernel
theorem dX9_findBest_116 : decode cX9_findBest 116 = .ok (.ifCond .eq 25, 3) := by decide +kernel
theorem dX9_findBest_119 : decode cX9_findBest 119 = .ok (.iload_n 2, 1) := by decide +kernel
theorem dX9_findBest_120 : decode cX9_findBest 120 = .ok (.aload_n 0, 1) := by decide +kernel
theorem dX9_findBest_121 : decode cX9_findBest 121 = .ok (.getfield 16, 3) := by decide +kernel
theorem dX9_findBest_124 : decode cX9_findBest 124 = .ok (.iconst 3, 1) := by decide +kernel
theorem dX9_findBest_125 : decode cX9_findBest 125 = .ok (.iload 8, 2) := by decide +kernel
theorem dX9_findBest_127 : decode cX9_findBest 127 = .ok (.imul, 1) := by decide +kernel
theorem dX9_findBest_128 : decode cX9_findBest 128 = .ok (.iconst 1, 1) := by decide +kernel
theorem dX9_findBest_129 : decode cX9_findBest 129 = .ok (.isub, 1) := by decide +kernel
theorem dX9_findBest_130 : decode cX9_findBest 130 = .ok (.iaload, 1) := by decide +kernel
theorem dX9_findBest_131 : decode cX9_findBest 131 = .ok (.invokestatic 110, 3) := by decide +kernel
theorem dX9_findBest_134 : decode cX9_findBest 134 = .ok (.ifCond .eq 7, 3) := by decide +kernel
theorem dX9_findBest_137 : decode cX9_findBest 137 = .ok (.iconst 1, 1) := by decide +kernel
theorem dX9_findBest_138 : decode cX9_findBest 138 = .ok (.goto 4, 3) := by decide +kernel
theorem dX9_findBest_141 : decode cX9_findBest 141 = .ok (.iconst 0, 1) := by decide +kernel
theorem dX9_findBest_142 : decode cX9_findBest 142 = .ok (.istore 6, 2) := by decide +kernel
theorem dX9_findBest_144 : decode cX9_findBest 144 = .ok (.aload_n 0, 1) := by decide +kernel
theorem dX9_findBest_145 : decode cX9_findBest 145 = .ok (.getfield 28, 3) := by decide +kernel
theorem dX9_findBest_148 : decode cX9_findBest 148 = .ok (.bipush 8, 2) := by decide +kernel
theorem dX9_findBest_150 : decode cX9_findBest 150 = .ok (.dup2, 1) := by decide +kernel
theorem dX9_findBest_151 : decode cX9_findBest 151 = .ok (.iaload, 1) := by decide +kernel
theorem dX9_findBest_152 : decode cX9_findBest 152 = .ok (.iconst 1, 1) := by decide +kernel
theorem dX9_findBest_153 : decode cX9_findBest 153 = .ok (.iload 8, 2) := by decide +kernel
theorem dX9_findBest_155 : decode cX9_findBest 155 = .ok (.iconst 1, 1) := by decide +kernel
theorem dX9_findBest_156 : decode cX9_findBest 156 = .ok (.isub, 1) := by decide +kernel
theorem dX9_findBest_157 : decode cX9_findBest 157 = .ok (.ishl, 1) := by decide +kernel
theorem dX9_findBest_158 : decode cX9_findBest 158 = .ok (.ior, 1) := by decide +kernel
theorem dX9_findBest_159 : decode cX9_findBest 159 = .ok (.iastore, 1) := by decide +kernel
theorem dX9_findBest_160 : decode cX9_findBest 160 = .ok (.iload 5, 2) := by decide +kernel
theorem dX9_findBest_162 : decode cX9_findBest 162 = .ok (.aload_n 0, 1) := by decide +kernel
theorem dX9_findBest_163 : decode cX9_findBest 163 = .ok (.iload 8, 2) := by decide +kernel
theorem dX9_findBest_165 : decode cX9_findBest 165 = .ok (.iconst 1, 1) := by decide +kernel
theorem dX9_findBest_166 : decode cX9_findBest 166 = .ok (.isub, 1) := by decide +kernel
theorem dX9_findBest_167 : decode cX9_findBest 167 = .ok (.invokevirtual 137, 3) := by decide +kernel
theorem dX9_findBest_170 : decode cX9_findBest 170 = .ok (.iadd, 1) := by decide +kernel
theorem dX9_findBest_171 : decode cX9_findBest 171 = .ok (.istore 5, 2) := by decide +kernel
theorem dX9_findBest_173 : decode cX9_findBest 173 = .ok (.iinc 7 (-1), 3) := by decide +kernel
theorem dX9_findBest_176 : decode cX9_findBest 176 = .ok (.goto (-130), 3) := by decide +kernel
theorem dX9_findBest_179 : decode cX9_findBest 179 = .ok (.iload 6, 2) := by decide +kernel
theorem dX9_findBest_181 : decode cX9_findBest 181 = .ok (.ifCond .eq 24, 3) := by decide +kernel
theorem dX9_findBest_184 : decode cX9_findBest 184 = .ok (.iload 5, 2) := by decide +kernel
theorem dX9_findBest_186 : decode cX9_findBest 186 = .ok (.aload_n 0, 1) := by decide +kernel
theorem dX9_findBest_187 : decode cX9_findBest 187 = .ok (.getfield 157, 3) := by decide +kernel
theorem dX9_findBest_190 : decode cX9_findBest 190 = .ok (.if_icmp .le 15, 3) := by decide +kernel
theorem dX9_findBest_193 : decode cX9_findBest 193 = .ok (.aload_n 0, 1) := by decide +kernel
theorem dX9_findBest_194 : decode cX9_findBest 194 = .ok (.iload 5, 2) := by decide +kernel
theorem dX9_findBest_196 : decode cX9_findBest 196 = .ok (.putfield 157, 3) := by decide +kernel
theorem dX9_findBest_199 : decode cX9_findBest 199 = .ok (.aload_n 0, 1) := by decide +kernel
theorem dX9_findBest_200 : decode cX9_findBest 200 = .ok (.iload 4, 2) := by decide +kernel
theorem dX9_findBest_202 : decode cX9_findBest 202 = .ok (.putfield 160, 3) := by decide +kernel
theorem dX9_findBest_205 : decode cX9_findBest 205 = .ok (.iinc 3 1, 3) := by decide +kernel
theorem dX9_findBest_208 : decode cX9_findBest 208 = .ok (.goto (-194), 3) := by decide +kernel
theorem dX9_findBest_211 : decode cX9_findBest 211 = .ok (.return_, 1) := by decide +kernel
theorem dX9_best_0 : decode cX9_best 0 = .ok (.aload_n 0, 1) := by decide +kernel
theorem dX9_best_1 : decode cX9_best 1 = .ok (.iconst 0, 1) := by decide +kernel
theorem dX9_best_2 : decode cX9_best 2 = .ok (.putfield 53, 3) := by decide +kernel
theorem dX9_best_5 : decode cX9_best 5 = .ok (.iload_n 1, 1) := by decide +kernel
theorem dX9_best_6 : decode cX9_best 6 = .ok (.i2l, 1) := by decide +kernel
theorem dX9_best_7 : decode cX9_best 7 = .ok (.lconst 1, 1) := by decide +kernel
theorem dX9_best_8 : decode cX9_best 8 = .ok (.ldc2_w 166, 3) := by decide +kernel
theorem dX9_best_11 : decode cX9_best 11 = .ok (.invokestatic 60, 3) := by decide +kernel
theorem dX9_best_14 : decode cX9_best 14 = .ok (.ifCond .ne 6, 3) := by decide +kernel
theorem dX9_best_17 : decode cX9_best 17 = .ok (.bipush (-2), 2) := by decide +kernel
theorem dX9_best_19 : decode cX9_best 19 = .ok (.ireturn, 1) := by decide +kernel
theorem dX9_best_20 : decode cX9_best 20 = .ok (.aload_n 0, 1) := by decide +kernel
theorem dX9_best_21 : decode cX9_best 21 = .ok (.iload_n 1, 1) := by decide +kernel
theorem dX9_best_22 : decode cX9_best 22 = .ok (.bipush 15, 2) := by decide +kernel
theorem dX9_best_24 : decode cX9_best 24 = .ok (.invokevirtual 168, 3) := by decide +kernel
theorem dX9_best_27 : decode cX9_best 27 = .ok (.iload_n 2, 1) := by decide +kernel
theorem dX9_best_28 : decode cX9_best 28 = .ok (.ifCond .eq 10, 3) := by decide +kernel
theorem dX9_best_31 : decode cX9_best 31 = .ok (.aload_n 0, 1) := by decide +kernel
theorem dX9_best_32 : decode cX9_best 32 = .ok (.getfield 160, 3) := by decide +kernel
theorem dX9_best_35 : decode cX9_best 35 = .ok (.goto 7, 3) := by decide +kernel
theorem dX9_best_38 : decode cX9_best 38 = .ok (.aload_n 0, 1) := by decide +kernel
theorem dX9_best_39 : decode cX9_best 39 = .ok (.getfield 157, 3) := by decide +kernel
theorem dX9_best_42 : decode cX9_best 42 = .ok (.ireturn, 1) := by decide +kernel
theorem dX9_hot_0 : decode cX9_hot 0 = .ok (.aload_n 0, 1) := by decide +kernel
theorem dX9_hot_1 : decode cX9_hot 1 = .ok (.iconst 0, 1) := by decide +kernel
theorem dX9_hot_2 : decode cX9_hot 2 = .ok (.putfield 53, 3) := by decide +kernel
theorem dX9_hot_5 : decode cX9_hot 5 = .ok (.aload_n 0, 1) := by decide +kernel
theorem dX9_hot_6 : decode cX9_hot 6 = .ok (.iload_n 1, 1) := by decide +kernel
theorem dX9_hot_7 : decode cX9_hot 7 = .ok (.invokevirtual 132, 3) := by decide +kernel
theorem dX9_hot_10 : decode cX9_hot 10 = .ok (.ifCond .eq 5, 3) := by decide +kernel
theorem dX9_hot_13 : decode cX9_hot 13 = .ok (.iconst (-1), 1) := by decide +kernel
theorem dX9_hot_14 : decode cX9_hot 14 = .ok (.ireturn, 1) := by decide +kernel
theorem dX9_hot_15 : decode cX9_hot 15 = .ok (.iload_n 2, 1) := by decide +kernel
theorem dX9_hot_16 : decode cX9_hot 16 = .ok (.i2l, 1) := by decide +kernel
theorem dX9_hot_17 : decode cX9_hot 17 = .ok (.lconst 0, 1) := by decide +kernel
theorem dX9_hot_18 : decode cX9_hot 18 = .ok (.ldc2_w 172, 3) := by decide +kernel
theorem dX9_hot_21 : decode cX9_hot 21 = .ok (.invokestatic 60, 3) := by decide +kernel
theorem dX9_hot_24 : decode cX9_hot 24 = .ok (.ifCond .ne 6, 3) := by decide +kernel
theorem dX9_hot_27 : decode cX9_hot 27 = .ok (.bipush (-2), 2) := by decide +kernel
theorem dX9_hot_29 : decode cX9_hot 29 = .ok (.ireturn, 1) := by decide +kernel
theorem dX9_hot_30 : decode cX9_hot 30 = .ok (.iconst 0, 1) := by decide +kernel
theorem dX9_hot_31 : decode cX9_hot 31 = .ok (.istore_n 3, 1) := by decide +kernel
theorem dX9_hot_32 : decode cX9_hot 32 = .ok (.iconst 0, 1) := by decide +kernel
theorem dX9_hot_33 : decode cX9_hot 33 = .ok (.istore 4, 2) := by decide +kernel
theorem dX9_hot_35 : decode cX9_hot 35 = .ok (.iload 4, 2) := by decide +kernel
theorem dX9_hot_37 : decode cX9_hot 37 = .ok (.bipush 9, 2) := by decide +kernel
theorem dX9_hot_39 : decode cX9_hot 39 = .ok (.if_icmp .gt 67, 3) := by decide +kernel
theorem dX9_hot_42 : decode cX9_hot 42 = .ok (.aload_n 0, 1) := by decide +kernel
theorem dX9_hot_43 : decode cX9_hot 43 = .ok (.invokevirtual 151, 3) := by decide +kernel
theorem dX9_hot_46 : decode cX9_hot 46 = .ok (.aload_n 0, 1) := by decide +kernel
theorem dX9_hot_47 : decode cX9_hot 47 = .ok (.getfield 28, 3) := by decide +kernel
theorem dX9_hot_50 : decode cX9_hot 50 = .ok (.iconst 0, 1) := by decide +kernel
theorem dX9_hot_51 : decode cX9_hot 51 = .ok (.iload 4, 2) := by decide +kernel
theorem dX9_hot_53 : decode cX9_hot 53 = .ok (.iastore, 1) := by decide +kernel
theorem dX9_hot_54 : decode cX9_hot 54 = .ok (.iconst 0, 1) := by decide +kernel
theorem dX9_hot_55 : decode cX9_hot 55 = .ok (.istore 5, 2) := by decide +kernel
theorem dX9_hot_57 : decode cX9_hot 57 = .ok (.iload 5, 2) := by decide +kernel
theorem dX9_hot_59 : decode cX9_hot 59 = .ok (.iload_n 2, 1) := by decide +kernel
theorem dX9_hot_60 : decode cX9_hot 60 = .ok (.if_icmp .ge 17, 3) := by decide +kernel
theorem dX9_hot_63 : decode cX9_hot 63 = .ok (.aload_n 0, 1) := by decide +kernel
theorem dX9_hot_64 : decode cX9_hot 64 = .ok (.aload_n 0, 1) := by decide +kernel
theorem dX9_hot_65 : decode cX9_hot 65 = .ok (.getfield 28, 3) := by decide +kernel
theorem dX9_hot_68 : decode cX9_hot 68 = .ok (.invokevirtual 144, 3) := by decide +kernel
theorem dX9_hot_71 : decode cX9_hot 71 = .ok (.iinc 5 1, 3) := by decide +kernel
theorem dX9_hot_74 : decode cX9_hot 74 = .ok (.goto (-17), 3) := by decide +kernel
theorem dX9_hot_77 : decode cX9_hot 77 = .ok (.iload_n 3, 1) := by decide +kernel
theorem dX9_hot_78 : decode cX9_hot 78 = .ok (.aload_n 0, 1) := by decide +kernel
theorem dX9_hot_79 : decode cX9_hot 79 = .ok (.aload_n 0, 1) := by decide +kernel
theorem dX9_hot_80 : decode cX9_hot 80 = .ok (.getfield 28, 3) := by decide +kernel
theorem dX9_hot_83 : decode cX9_hot 83 = .ok (.iload_n 1, 1) := by decide +kernel
theorem dX9_hot_84 : decode cX9_hot 84 = .ok (.invokevirtual 114, 3) := by decide +kernel
theorem dX9_hot_87 : decode cX9_hot 87 = .ok (.ifCond .eq 10, 3) := by decide +kernel
theorem dX9_hot_90 : decode cX9_hot 90 = .ok (.iconst 1, 1) := by decide +kernel
theorem dX9_hot_91 : decode cX9_hot 91 = .ok (.iload 4, 2) := by decide +kernel
theorem dX9_hot_93 : decode cX9_hot 93 = .ok (.ishl, 1) := by decide +kernel
theorem dX9_hot_94 : decode cX9_hot 94 = .ok (.goto 4, 3) := by decide +kernel
theorem dX9_hot_97 : decode cX9_hot 97 = .ok (.iconst 0, 1) := by decide +kernel
theorem dX9_hot_98 : decode cX9_hot 98 = .ok (.ior, 1) := by decide +kernel
theorem dX9_hot_99 : decode cX9_hot 99 = .ok (.istore_n 3, 1) := by decide +kernel
theorem dX9_hot_100 : decode cX9_hot 100 = .ok (.iinc 4 1, 3) := by decide +kernel
theorem dX9_hot_103 : decode cX9_hot 103 = .ok (.goto (-68), 3) := by decide +kernel
theorem dX9_hot_106 : decode cX9_hot 106 = .ok (.iload_n 3, 1) := by decide +kernel
theorem dX9_hot_107 : decode cX9_hot 107 = .ok (.ireturn, 1) := by decide +kernel
theorem dX9_spiceFor_0 : decode cX9_spiceFor 0 = .ok (.aload_n 0, 1) := by decide +kernel
theorem dX9_spiceFor_1 : decode cX9_spiceFor 1 = .ok (.iconst 0, 1) := by decide +kernel
theorem dX9_spiceFor_2 : decode cX9_spiceFor 2 = .ok (.putfield 53, 3) := by decide +kernel
theorem dX9_spiceFor_5 : decode cX9_spiceFor 5 = .ok (.aload_n 0, 1) := by decide +kernel
theorem dX9_spiceFor_6 : decode cX9_spiceFor 6 = .ok (.iload_n 1, 1) := by decide +kernel
theorem dX9_spiceFor_7 : decode cX9_spiceFor 7 = .ok (.invokevirtual 132, 3) := by decide +kernel
theorem dX9_spiceFor_10 : decode cX9_spiceFor 10 = .ok (.ifCond .eq 5, 3) := by decide +kernel
theorem dX9_spiceFor_13 : decode cX9_spiceFor 13 = .ok (.iconst (-1), 1) := by decide +kernel
theorem dX9_spiceFor_14 : decode cX9_spiceFor 14 = .ok (.ireturn, 1) := by decide +kernel
theorem dX9_spiceFor_15 : decode cX9_spiceFor 15 = .ok (.aload_n 0, 1) := by decide +kernel
theorem dX9_spiceFor_16 : decode cX9_spiceFor 16 = .ok (.getfield 25, 3) := by decide +kernel
theorem dX9_spiceFor_19 : decode cX9_spiceFor 19 = .ok (.bipush 8, 2) := by decide +kernel
theorem dX9_spiceFor_21 : decode cX9_spiceFor 21 = .ok (.iaload, 1) := by decide +kernel
theorem dX9_spiceFor_22 : decode cX9_spiceFor 22 = .ok (.iload_n 1, 1) := by decide +kernel
theorem dX9_spiceFor_23 : decode cX9_spiceFor 23 = .ok (.invokestatic 110, 3) := by decide +kernel
theorem dX9_spiceFor_26 : decode cX9_spiceFor 26 = .ok (.ifCond .eq 6, 3) := by decide +kernel
theorem dX9_spiceFor_29 : decode cX9_spiceFor 29 = .ok (.bipush (-3), 2) := by decide +kernel
theorem dX9_spiceFor_31 : decode cX9_spiceFor 31 = .ok (.ireturn, 1) := by decide +kernel
theorem dX9_spiceFor_32 : decode cX9_spiceFor 32 = .ok (.aload_n 0, 1) := by decide +kernel
theorem dX9_spiceFor_33 : decode cX9_spiceFor 33 = .ok (.invokevirtual 151, 3) := by decide +kernel
theorem dX9_spiceFor_36 : decode cX9_spiceFor 36 = .ok (.bipush (-9), 2) := by decide +kernel
theorem dX9_spiceFor_38 : decode cX9_spiceFor 38 = .ok (.istore_n 2, 1) := by decide +kernel
theorem dX9_spiceFor_39 : decode cX9_spiceFor 39 = .ok (.iconst 0, 1) := by decide +kernel
theorem dX9_spiceFor_40 : decode cX9_spiceFor 40 = .ok (.istore_n 3, 1) := by decide +kernel
theorem dX9_spiceFor_41 : decode cX9_spiceFor 41 = .ok (.iload_n 3, 1) := by decide +kernel
theorem dX9_spiceFor_42 : decode cX9_spiceFor 42 = .ok (.aload_n 0, 1) := by decide +kernel
theorem dX9_spiceFor_43 : decode cX9_spiceFor 43 = .ok (.getfield 25, 3) := by decide +kernel
theorem dX9_spiceFor_46 : decode cX9_spiceFor 46 = .ok (.iconst 1, 1) := by decide +kernel
theorem dX9_spiceFor_47 : decode cX9_spiceFor 47 = .ok (.iaload, 1) := by decide +kernel
theorem dX9_spiceFor_48 : decode cX9_spiceFor 48 = .ok (.if_icmp .gt 40, 3) := by decide +kernel
theorem dX9_spiceFor_51 : decode cX9_spiceFor 51 = .ok (.iload_n 2, 1) := by decide +kernel
theorem dX9_spiceFor_52 : decode cX9_spiceFor 52 = .ok (.bipush (-9), 2) := by decide +kernel
theorem dX9_spiceFor_54 : decode cX9_spiceFor 54 = .ok (.if_icmp .ne 34, 3) := by decide +kernel
theorem dX9_spiceFor_57 : decode cX9_spiceFor 57 = .ok (.aload_n 0, 1) := by decide +kernel
theorem dX9_spiceFor_58 : decode cX9_spiceFor 58 = .ok (.aload_n 0, 1) := by decide +kernel
theorem dX9_spiceFor_59 : decode cX9_spiceFor 59 = .ok (.getfield 28, 3) := by decide +kernel
theorem dX9_spiceFor_62 : decode cX9_spiceFor 62 = .ok (.iload_n 1, 1) := by decide +kernel
theorem dX9_spiceFor_63 : decode cX9_spiceFor 63 = .ok (.invokevirtual 114, 3) := by decide +kernel
theorem dX9_spiceFor_66 : decode cX9_spiceFor 66 = .ok (.ifCond .eq 7, 3) := by decide +kernel
theorem dX9_spiceFor_69 : decode cX9_spiceFor 69 = .ok (.iload_n 3, 1) := by decide +kernel
theorem dX9_spiceFor_70 : decode cX9_spiceFor 70 = .ok (.goto 4, 3) := by decide +kernel
theorem dX9_spiceFor_73 : decode cX9_spiceFor 73 = .ok (.iload_n 2, 1) := by decide +kernel
theorem dX9_spiceFor_74 : decode cX9_spiceFor 74 = .ok (.istore_n 2, 1) := by decide +kernel
theorem dX9_spiceFor_75 : decode cX9_spiceFor 75 = .ok (.aload_n 0, 1) := by decide +kernel
theorem dX9_spiceFor_76 : decode cX9_spiceFor 76 = .ok (.getfield 28, 3) := by decide +kernel
theorem dX9_spiceFor_79 : decode cX9_spiceFor 79 = .ok (.invokestatic 148, 3) := by decide +kernel
theorem dX9_spiceFor_82 : decode cX9_spiceFor 82 = .ok (.iinc 3 1, 3) := by decide +kernel
theorem dX9_spiceFor_85 : decode cX9_spiceFor 85 = .ok (.goto (-44), 3) := by decide +kernel
theorem dX9_spiceFor_88 : decode cX9_spiceFor 88 = .ok (.iload_n 2, 1) := by decide +kernel
theorem dX9_spiceFor_89 : decode cX9_spiceFor 89 = .ok (.ireturn, 1) := by decide +kernel
theorem dX9_noRow_0 : decode cX9_noRow 0 = .ok (.iload_n 0, 1) := by decide +kernel
theorem dX9_noRow_1 : decode cX9_noRow 1 = .ok (.i2l, 1) := by decide +kernel
theorem dX9_noRow_2 : decode cX9_noRow 2 = .ok (.lconst 1, 1) := by decide +kernel
theorem dX9_noRow_3 : decode cX9_noRow 3 = .ok (.ldc2_w 174, 3) := by decide +kernel
theorem dX9_noRow_6 : decode cX9_noRow 6 = .ok (.invokestatic 60, 3) := by decide +kernel
theorem dX9_noRow_9 : decode cX9_noRow 9 = .ok (.ifCond .eq 21, 3) := by decide +kernel
theorem dX9_noRow_12 : decode cX9_noRow 12 = .ok (.iload_n 1, 1) := by decide +kernel
theorem dX9_noRow_13 : decode cX9_noRow 13 = .ok (.i2l, 1) := by decide +kernel
theorem dX9_noRow_14 : decode cX9_noRow 14 = .ok (.lconst 0, 1) := by decide +kernel
theorem dX9_noRow_15 : decode cX9_noRow 15 = .ok (.bipush 10, 2) := by decide +kernel
theorem dX9_noRow_17 : decode cX9_noRow 17 = .ok (.iload_n 0, 1) := by decide +kernel
theorem dX9_noRow_18 : decode cX9_noRow 18 = .ok (.invokestatic 163, 3) := by decide +kernel
theorem dX9_noRow_21 : decode cX9_noRow 21 = .ok (.iconst 1, 1) := by decide +kernel
theorem dX9_noRow_22 : decode cX9_noRow 22 = .ok (.isub, 1) := by decide +kernel
theorem dX9_noRow_23 : decode cX9_noRow 23 = .ok (.i2l, 1) := by decide +kernel
theorem dX9_noRow_24 : decode cX9_noRow 24 = .ok (.invokestatic 60, 3) := by decide +kernel
theorem dX9_noRow_27 : decode cX9_noRow 27 = .ok (.ifCond .ne 5, 3) := by decide +kernel
theorem dX9_noRow_30 : decode cX9_noRow 30 = .ok (.iconst 1, 1) := by decide +kernel
theorem dX9_noRow_31 : decode cX9_noRow 31 = .ok (.ireturn, 1) := by decide +kernel
theorem dX9_noRow_32 : decode cX9_noRow 32 = .ok (.iconst 1, 1) := by decide +kernel
theorem dX9_noRow_33 : decode cX9_noRow 33 = .ok (.istore_n 2, 1) := by decide +kernel
theorem dX9_noRow_34 : decode cX9_noRow 34 = .ok (.iconst 0, 1) := by decide +kernel
theorem dX9_noRow_35 : decode cX9_noRow 35 = .ok (.istore_n 3, 1) := by decide +kernel
theorem dX9_noRow_36 : decode cX9_noRow 36 = .ok (.iload_n 3, 1) := by decide +kernel
theorem dX9_noRow_37 : decode cX9_noRow 37 = .ok (.iload_n 0, 1) := by decide +kernel
theorem dX9_noRow_38 : decode cX9_noRow 38 = .ok (.if_icmp .ge 35, 3) := by decide +kernel
theorem dX9_noRow_41 : decode cX9_noRow 41 = .ok (.iload_n 2, 1) := by decide +kernel
theorem dX9_noRow_42 : decode cX9_noRow 42 = .ok (.ifCond .eq 23, 3) := by decide +kernel
theorem dX9_noRow_45 : decode cX9_noRow 45 = .ok (.iload_n 1, 1) := by decide +kernel
theorem dX9_noRow_46 : decode cX9_noRow 46 = .ok (.bipush 10, 2) := by decide +kernel
theorem dX9_noRow_48 : decode cX9_noRow 48 = .ok (.iload_n 3, 1) := by decide +kernel
theorem dX9_noRow_49 : decode cX9_noRow 49 = .ok (.invokestatic 163, 3) := by decide +kernel
theorem dX9_noRow_52 : decode cX9_noRow 52 = .ok (.idiv, 1) := by decide +kernel
theorem dX9_noRow_53 : decode cX9_noRow 53 = .ok (.bipush 10, 2) := by decide +kernel
theorem dX9_noRow_55 : decode cX9_noRow 55 = .ok (.irem, 1) := by decide +kernel
theorem dX9_noRow_56 : decode cX9_noRow 56 = .ok (.bipush 8, 2) := by decide +kernel
theorem dX9_noRow_58 : decode cX9_noRow 58 = .ok (.if_icmp .ge 7, 3) := by decide +kernel
theorem dX9_noRow_61 : decode cX9_noRow 61 = .ok (.iconst 1, 1) := by decide +kernel
theorem dX9_noRow_62 : decode cX9_noRow 62 = .ok (.goto 4, 3) := by decide +kernel
theorem dX9_noRow_65 : decode cX9_noRow 65 = .ok (.iconst 0, 1) := by decide +kernel
theorem dX9_noRow_66 : decode cX9_noRow 66 = .ok (.istore_n 2, 1) := by decide +kernel
theorem dX9_noRow_67 : decode cX9_noRow 67 = .ok (.iinc 3 1, 3) := by decide +kernel
theorem dX9_noRow_70 : decode cX9_noRow 70 = .ok (.goto (-34), 3) := by decide +kernel
theorem dX9_noRow_73 : decode cX9_noRow 73 = .ok (.iload_n 2, 1) := by decide +kernel
theorem dX9_noRow_74 : decode cX9_noRow 74 = .ok (.ifCond .ne 7, 3) := by decide +kernel
theorem dX9_noRow_77 : decode cX9_noRow 77 = .ok (.iconst 1, 1) := by decide +kernel
theorem dX9_noRow_78 : decode cX9_noRow 78 = .ok (.goto 4, 3) := by decide +kernel
theorem dX9_noRow_81 : decode cX9_noRow 81 = .ok (.iconst 0, 1) := by decide +kernel
theorem dX9_noRow_82 : decode cX9_noRow 82 = .ok (.ireturn, 1) := by decide +kernel
theorem dX9_does_0 : decode cX9_does 0 = .ok (.iload_n 1, 1) := by decide +kernel
theorem dX9_does_1 : decode cX9_does 1 = .ok (.ifCond .ne 33, 3) := by decide +kernel
theorem dX9_does_4 : decode cX9_does 4 = .ok (.aload_n 0, 1) := by decide +kernel
theorem dX9_does_5 : decode cX9_does 5 = .ok (.getfield 28, 3) := by decide +kernel
theorem dX9_does_8 : decode cX9_does 8 = .ok (.bipush 6, 2) := by decide +kernel
theorem dX9_does_10 : decode cX9_does 10 = .ok (.iaload, 1) := by decide +kernel
theorem dX9_does_11 : decode cX9_does 11 = .ok (.ifCond .eq 7, 3) := by decide +kernel
theorem dX9_does_14 : decode cX9_does 14 = .ok (.iconst 1, 1) := by decide +kernel
theorem dX9_does_15 : decode cX9_does 15 = .ok (.goto 4, 3) := by decide +kernel
theorem dX9_does_18 : decode cX9_does 18 = .ok (.iconst 0, 1) := by decide +kernel
theorem dX9_does_19 : decode cX9_does 19 = .ok (.istore_n 2, 1) := by decide +kernel
theorem dX9_does_20 : decode cX9_does 20 = .ok (.iload_n 2, 1) := by decide +kernel
theorem dX9_does_21 : decode cX9_does 21 = .ok (.ifCond .eq 11, 3) := by decide +kernel
theorem dX9_does_24 : decode cX9_does 24 = .ok (.aload_n 0, 1) := by decide +kernel
theorem dX9_does_25 : decode cX9_does 25 = .ok (.aload_n 0, 1) := by decide +kernel
theorem dX9_does_26 : decode cX9_does 26 = .ok (.getfield 28, 3) := by decide +kernel
theorem dX9_does_29 : decode cX9_does 29 = .ok (.invokevirtual 144, 3) := by decide +kernel
theorem dX9_does_32 : decode cX9_does 32 = .ok (.iload_n 2, 1) := by decide +kernel
theorem dX9_does_33 : decode cX9_does 33 = .ok (.ireturn, 1) := by decide +kernel
theorem dX9_does_34 : decode cX9_does 34 = .ok (.iload_n 1, 1) := by decide +kernel
theorem dX9_does_35 : decode cX9_does 35 = .ok (.bipush 6, 2) := by decide +kernel
theorem dX9_does_37 : decode cX9_does 37 = .ok (.if_icmp .ne 31, 3) := by decide +kernel
theorem dX9_does_40 : decode cX9_does 40 = .ok (.aload_n 0, 1) := by decide +kernel
theorem dX9_does_41 : decode cX9_does 41 = .ok (.getfield 28, 3) := by decide +kernel
theorem dX9_does_44 : decode cX9_does 44 = .ok (.iconst 1, 1) := by decide +kernel
theorem dX9_does_45 : decode cX9_does 45 = .ok (.iaload, 1) := by decide +kernel
theorem dX9_does_46 : decode cX9_does 46 = .ok (.ifCond .le 7, 3) := by decide +kernel
theorem dX9_does_49 : decode cX9_does 49 = .ok (.iconst 1, 1) := by decide +kernel
theorem dX9_does_50 : decode cX9_does 50 = .ok (.goto 4, 3) := by decide +kernel
theorem dX9_does_53 : decode cX9_does 53 = .ok (.iconst 0, 1) := by decide +kernel
theorem dX9_does_54 : decode cX9_does 54 = .ok (.istore_n 2, 1) := by decide +kernel
theorem dX9_does_55 : decode cX9_does 55 = .ok (.iload_n 2, 1) := by decide +kernel
theorem dX9_does_56 : decode cX9_does 56 = .ok (.ifCond .eq 10, 3) := by decide +kernel
theorem dX9_does_59 : decode cX9_does 59 = .ok (.aload_n 0, 1) := by decide +kernel
theorem dX9_does_60 : decode cX9_does 60 = .ok (.getfield 28, 3) := by decide +kernel
theorem dX9_does_63 : decode cX9_does 63 = .ok (.invokestatic 148, 3) := by decide +kernel
theorem dX9_does_66 : decode cX9_does 66 = .ok (.iload_n 2, 1) := by decide +kernel
theorem dX9_does_67 : decode cX9_does 67 = .ok (.ireturn, 1) := by decide +kernel
theorem dX9_does_68 : decode cX9_does 68 = .ok (.iload_n 1, 1) := by decide +kernel
theorem dX9_does_69 : decode cX9_does 69 = .ok (.bipush 7, 2) := by decide +kernel
theorem dX9_does_71 : decode cX9_does 71 = .ok (.if_icmp .ne 5, 3) := by decide +kernel
theorem dX9_does_74 : decode cX9_does 74 = .ok (.iconst 1, 1) := by decide +kernel
theorem dX9_does_75 : decode cX9_does 75 = .ok (.ireturn, 1) := by decide +kernel
theorem dX9_does_76 : decode cX9_does 76 = .ok (.aload_n 0, 1) := by decide +kernel
theorem dX9_does_77 : decode cX9_does 77 = .ok (.iload_n 1, 1) := by decide +kernel
theorem dX9_does_78 : decode cX9_does 78 = .ok (.iconst 1, 1) := by decide +kernel
theorem dX9_does_79 : decode cX9_does 79 = .ok (.isub, 1) := by decide +kernel
theorem dX9_does_80 : decode cX9_does 80 = .ok (.invokevirtual 132, 3) := by decide +kernel
theorem dX9_does_83 : decode cX9_does 83 = .ok (.ifCond .ne 17, 3) := by decide +kernel
theorem dX9_does_86 : decode cX9_does 86 = .ok (.aload_n 0, 1) := by decide +kernel
theorem dX9_does_87 : decode cX9_does 87 = .ok (.aload_n 0, 1) := by decide +kernel
theorem dX9_does_88 : decode cX9_does 88 = .ok (.getfield 28, 3) := by decide +kernel
theorem dX9_does_91 : decode cX9_does 91 = .ok (.iload_n 1, 1) := by decide +kernel
theorem dX9_does_92 : decode cX9_does 92 = .ok (.iconst 1, 1) := by decide +kernel
theorem dX9_does_93 : decode cX9_does 93 = .ok (.isub, 1) := by decide +kernel
theorem dX9_does_94 : decode cX9_does 94 = .ok (.invokevirtual 114, 3) := by decide +kernel
theorem dX9_does_97 : decode cX9_does 97 = .ok (.ifCond .ne 5, 3) := by decide +kernel
theorem dX9_does_100 : decode cX9_does 100 = .ok (.iconst 0, 1) := by decide +kernel
theorem dX9_does_101 : decode cX9_does 101 = .ok (.ireturn, 1) := by decide +kernel
theorem dX9_does_102 : decode cX9_does 102 = .ok (.aload_n 0, 1) := by decide +kernel
theorem dX9_does_103 : decode cX9_does 103 = .ok (.getfield 28, 3) := by decide +kernel
theorem dX9_does_106 : decode cX9_does 106 = .ok (.bipush 8, 2) := by decide +kernel
theorem dX9_does_108 : decode cX9_does 108 = .ok (.dup2, 1) := by decide +kernel
theorem dX9_does_109 : decode cX9_does 109 = .ok (.iaload, 1) := by decide +kernel
theorem dX9_does_110 : decode cX9_does 110 = .ok (.iconst 1, 1) := by decide +kernel
theorem dX9_does_111 : decode cX9_does 111 = .ok (.iload_n 1, 1) := by decide +kernel
theorem dX9_does_112 : decode cX9_does 112 = .ok (.iconst 1, 1) := by decide +kernel
theorem dX9_does_113 : decode cX9_does 113 = .ok (.isub, 1) := by decide +kernel
theorem dX9_does_114 : decode cX9_does 114 = .ok (.ishl, 1) := by decide +kernel
theorem dX9_does_115 : decode cX9_does 115 = .ok (.ior, 1) := by decide +kernel
theorem dX9_does_116 : decode cX9_does 116 = .ok (.iastore, 1) := by decide +kernel
theorem dX9_does_117 : decode cX9_does 117 = .ok (.iconst 1, 1) := by decide +kernel
theorem dX9_does_118 : decode cX9_does 118 = .ok (.ireturn, 1) := by decide +kernel
theorem dX9_judge_0 : decode cX9_judge 0 = .ok (.aload_n 0, 1) := by decide +kernel
theorem dX9_judge_1 : decode cX9_judge 1 = .ok (.iconst 0, 1) := by decide +kernel
theorem dX9_judge_2 : decode cX9_judge 2 = .ok (.putfield 53, 3) := by decide +kernel
theorem dX9_judge_5 : decode cX9_judge 5 = .ok (.iload_n 1, 1) := by decide +kernel
theorem dX9_judge_6 : decode cX9_judge 6 = .ok (.iload_n 2, 1) := by decide +kernel
theorem dX9_judge_7 : decode cX9_judge 7 = .ok (.invokestatic 176, 3) := by decide +kernel
theorem dX9_judge_10 : decode cX9_judge 10 = .ok (.ifCond .eq 6, 3) := by decide +kernel
theorem dX9_judge_13 : decode cX9_judge 13 = .ok (.bipush (-2), 2) := by decide +kernel
theorem dX9_judge_15 : decode cX9_judge 15 = .ok (.ireturn, 1) := by decide +kernel
theorem dX9_judge_16 : decode cX9_judge 16 = .ok (.aload_n 0, 1) := by decide +kernel
theorem dX9_judge_17 : decode cX9_judge 17 = .ok (.invokevirtual 151, 3) := by decide +kernel
theorem dX9_judge_20 : decode cX9_judge 20 = .ok (.iconst 0, 1) := by decide +kernel
theorem dX9_judge_21 : decode cX9_judge 21 = .ok (.istore_n 3, 1) := by decide +kernel
theorem dX9_judge_22 : decode cX9_judge 22 = .ok (.iload_n 3, 1) := by decide +kernel
theorem dX9_judge_23 : decode cX9_judge 23 = .ok (.iload_n 1, 1) := by decide +kernel
theorem dX9_judge_24 : decode cX9_judge 24 = .ok (.if_icmp .ge 33, 3) := by decide +kernel
theorem dX9_judge_27 : decode cX9_judge 27 = .ok (.aload_n 0, 1) := by decide +kernel
theorem dX9_judge_28 : decode cX9_judge 28 = .ok (.iload_n 2, 1) := by decide +kernel
theorem dX9_judge_29 : decode cX9_judge 29 = .ok (.bipush 10, 2) := by decide +kernel
theorem dX9_judge_31 : decode cX9_judge 31 = .ok (.iload_n 1, 1) := by decide +kernel
theorem dX9_judge_32 : decode cX9_judge 32 = .ok (.iconst 1, 1) := by decide +kernel
theorem dX9_judge_33 : decode cX9_judge 33 = .ok (.isub, 1) := by decide +kernel
theorem dX9_judge_34 : decode cX9_judge 34 = .ok (.iload_n 3, 1) := by decide +kernel
theorem dX9_judge_35 : decode cX9_judge 35 = .ok (.isub, 1) := by decide +kernel
theorem dX9_judge_36 : decode cX9_judge 36 = .ok (.invokestatic 163, 3) := by decide +kernel
theorem dX9_judge_39 : decode cX9_judge 39 = .ok (.idiv, 1) := by decide +kernel
theorem dX9_judge_40 : decode cX9_judge 40 = .ok (.bipush 10, 2) := by decide +kernel
theorem dX9_judge_42 : decode cX9_judge 42 = .ok (.irem, 1) := by decide +kernel
theorem dX9_judge_43 : decode cX9_judge 43 = .ok (.invokevirtual 179, 3) := by decide +kernel
theorem dX9_judge_46 : decode cX9_judge 46 = .ok (.ifCond .ne 5, 3) := by decide +kernel
theorem dX9_judge_49 : decode cX9_judge 49 = .ok (.iload_n 3, 1) := by decide +kernel
theorem dX9_judge_50 : decode cX9_judge 50 = .ok (.ireturn, 1) := by decide +kernel
theorem dX9_judge_51 : decode cX9_judge 51 = .ok (.iinc 3 1, 3) := by decide +kernel
theorem dX9_judge_54 : decode cX9_judge 54 = .ok (.goto (-32), 3) := by decide +kernel
theorem dX9_judge_57 : decode cX9_judge 57 = .ok (.bipush (-9), 2) := by decide +kernel
theorem dX9_judge_59 : decode cX9_judge 59 = .ok (.ireturn, 1) := by decide +kernel
theorem dX9_ways_0 : decode cX9_ways 0 = .ok (.iconst 1, 1) := by decide +kernel
theorem dX9_ways_1 : decode cX9_ways 1 = .ok (.istore_n 1, 1) := by decide +kernel
theorem dX9_ways_2 : decode cX9_ways 2 = .ok (.iconst 2, 1) := by decide +kernel
theorem dX9_ways_3 : decode cX9_ways 3 = .ok (.istore_n 2, 1) := by decide +kernel
theorem dX9_ways_4 : decode cX9_ways 4 = .ok (.iload_n 2, 1) := by decide +kernel
theorem dX9_ways_5 : decode cX9_ways 5 = .ok (.iload_n 0, 1) := by decide +kernel
theorem dX9_ways_6 : decode cX9_ways 6 = .ok (.if_icmp .gt 13, 3) := by decide +kernel
theorem dX9_ways_9 : decode cX9_ways 9 = .ok (.iload_n 1, 1) := by decide +kernel
theorem dX9_ways_10 : decode cX9_ways 10 = .ok (.iload_n 2, 1) := by decide +kernel
theorem dX9_ways_11 : decode cX9_ways 11 = .ok (.imul, 1) := by decide +kernel
theorem dX9_ways_12 : decode cX9_ways 12 = .ok (.istore_n 1, 1) := by decide +kernel
theorem dX9_ways_13 : decode cX9_ways 13 = .ok (.iinc 2 1, 3) := by decide +kernel
theorem dX9_ways_16 : decode cX9_ways 16 = .ok (.goto (-12), 3) := by decide +kernel
theorem dX9_ways_19 : decode cX9_ways 19 = .ok (.iload_n 1, 1) := by decide +kernel
theorem dX9_ways_20 : decode cX9_ways 20 = .ok (.ireturn, 1) := by decide +kernel
theorem dX9_divisor_0 : decode cX9_divisor 0 = .ok (.iload_n 0, 1) := by decide +kernel
theorem dX9_divisor_1 : decode cX9_divisor 1 = .ok (.ifCond .ge 8, 3) := by decide +kernel
theorem dX9_divisor_4 : decode cX9_divisor 4 = .ok (.iload_n 0, 1) := by decide +kernel
theorem dX9_divisor_5 : decode cX9_divisor 5 = .ok (.ineg, 1) := by decide +kernel
theorem dX9_divisor_6 : decode cX9_divisor 6 = .ok (.goto 4, 3) := by decide +kernel
theorem dX9_divisor_9 : decode cX9_divisor 9 = .ok (.iload_n 0, 1) := by decide +kernel
theorem dX9_divisor_10 : decode cX9_divisor 10 = .ok (.istore_n 2, 1) := by decide +kernel
theorem dX9_divisor_11 : decode cX9_divisor 11 = .ok (.iload_n 1, 1) := by decide +kernel
theorem dX9_divisor_12 : decode cX9_divisor 12 = .ok (.istore_n 3, 1) := by decide +kernel
theorem dX9_divisor_13 : decode cX9_divisor 13 = .ok (.iload_n 3, 1) := by decide +kernel
theorem dX9_divisor_14 : decode cX9_divisor 14 = .ok (.ifCond .eq 16, 3) := by decide +kernel
theorem dX9_divisor_17 : decode cX9_divisor 17 = .ok (.iload_n 2, 1) := by decide +kernel
theorem dX9_divisor_18 : decode cX9_divisor 18 = .ok (.iload_n 3, 1) := by decide +kernel
theorem dX9_divisor_19 : decode cX9_divisor 19 = .ok (.irem, 1) := by decide +kernel
theorem dX9_divisor_20 : decode cX9_divisor 20 = .ok (.istore 4, 2) := by decide +kernel
theorem dX9_divisor_22 : decode cX9_divisor 22 = .ok (.iload_n 3, 1) := by decide +kernel
theorem dX9_divisor_23 : decode cX9_divisor 23 = .ok (.istore_n 2, 1) := by decide +kernel
theorem dX9_divisor_24 : decode cX9_divisor 24 = .ok (.iload 4, 2) := by decide +kernel
theorem dX9_divisor_26 : decode cX9_divisor 26 = .ok (.istore_n 3, 1) := by decide +kernel
theorem dX9_divisor_27 : decode cX9_divisor 27 = .ok (.goto (-14), 3) := by decide +kernel
theorem dX9_divisor_30 : decode cX9_divisor 30 = .ok (.iload_n 2, 1) := by decide +kernel
theorem dX9_divisor_31 : decode cX9_divisor 31 = .ok (.ireturn, 1) := by decide +kernel
theorem dX9_fraction_0 : decode cX9_fraction 0 = .ok (.iload_n 0, 1) := by decide +kernel
theorem dX9_fraction_1 : decode cX9_fraction 1 = .ok (.iload_n 1, 1) := by decide +kernel
theorem dX9_fraction_2 : decode cX9_fraction 2 = .ok (.invokestatic 182, 3) := by decide +kernel
theorem dX9_fraction_5 : decode cX9_fraction 5 = .ok (.istore_n 3, 1) := by decide +kernel
theorem dX9_fraction_6 : decode cX9_fraction 6 = .ok (.iload_n 2, 1) := by decide +kernel
theorem dX9_fraction_7 : decode cX9_fraction 7 = .ok (.ifCond .eq 9, 3) := by decide +kernel
theorem dX9_fraction_10 : decode cX9_fraction 10 = .ok (.iload_n 0, 1) := by decide +kernel
theorem dX9_fraction_11 : decode cX9_fraction 11 = .ok (.iload_n 3, 1) := by decide +kernel
theorem dX9_fraction_12 : decode cX9_fraction 12 = .ok (.idiv, 1) := by decide +kernel
theorem dX9_fraction_13 : decode cX9_fraction 13 = .ok (.goto 6, 3) := by decide +kernel
theorem dX9_fraction_16 : decode cX9_fraction 16 = .ok (.iload_n 1, 1) := by decide +kernel
theorem dX9_fraction_17 : decode cX9_fraction 17 = .ok (.iload_n 3, 1) := by decide +kernel
theorem dX9_fraction_18 : decode cX9_fraction 18 = .ok (.idiv, 1) := by decide +kernel
end
section
theorem dX9_fraction_19 : decode cX9_fraction 19 = .ok (.ireturn, 1) := by decide +kernel
theorem dX9_share_0 : decode cX9_share 0 = .ok (.aload_n 0, 1) := by decide +kernel
theorem dX9_share_1 : decode cX9_share 1 = .ok (.iconst 0, 1) := by decide +kernel
theorem dX9_share_2 : decode cX9_share 2 = .ok (.putfield 53, 3) := by decide +kernel
theorem dX9_share_5 : decode cX9_share 5 = .ok (.aload_n 0, 1) := by decide +kernel
theorem dX9_share_6 : decode cX9_share 6 = .ok (.iload_n 1, 1) := by decide +kernel
theorem dX9_share_7 : decode cX9_share 7 = .ok (.invokevirtual 128, 3) := by decide +kernel
theorem dX9_share_10 : decode cX9_share 10 = .ok (.ifCond .eq 5, 3) := by decide +kernel
theorem dX9_share_13 : decode cX9_share 13 = .ok (.iconst (-1), 1) := by decide +kernel
theorem dX9_share_14 : decode cX9_share 14 = .ok (.ireturn, 1) := by decide +kernel
theorem dX9_share_15 : decode cX9_share 15 = .ok (.iconst 0, 1) := by decide +kernel
theorem dX9_share_16 : decode cX9_share 16 = .ok (.istore_n 3, 1) := by decide +kernel
theorem dX9_share_17 : decode cX9_share 17 = .ok (.iload_n 3, 1) := by decide +kernel
theorem dX9_share_18 : decode cX9_share 18 = .ok (.iconst 1, 1) := by decide +kernel
theorem dX9_share_19 : decode cX9_share 19 = .ok (.aload_n 0, 1) := by decide +kernel
theorem dX9_share_20 : decode cX9_share 20 = .ok (.getfield 57, 3) := by decide +kernel
theorem dX9_share_23 : decode cX9_share 23 = .ok (.ishl, 1) := by decide +kernel
theorem dX9_share_24 : decode cX9_share 24 = .ok (.if_icmp .ge 25, 3) := by decide +kernel
theorem dX9_share_27 : decode cX9_share 27 = .ok (.aload_n 0, 1) := by decide +kernel
theorem dX9_share_28 : decode cX9_share 28 = .ok (.iconst 2, 1) := by decide +kernel
theorem dX9_share_29 : decode cX9_share 29 = .ok (.iload_n 3, 1) := by decide +kernel
theorem dX9_share_30 : decode cX9_share 30 = .ok (.invokevirtual 168, 3) := by decide +kernel
theorem dX9_share_33 : decode cX9_share 33 = .ok (.aload_n 0, 1) := by decide +kernel
theorem dX9_share_34 : decode cX9_share 34 = .ok (.getfield 50, 3) := by decide +kernel
theorem dX9_share_37 : decode cX9_share 37 = .ok (.iload_n 3, 1) := by decide +kernel
theorem dX9_share_38 : decode cX9_share 38 = .ok (.aload_n 0, 1) := by decide +kernel
theorem dX9_share_39 : decode cX9_share 39 = .ok (.getfield 157, 3) := by decide +kernel
theorem dX9_share_42 : decode cX9_share 42 = .ok (.iastore, 1) := by decide +kernel
theorem dX9_share_43 : decode cX9_share 43 = .ok (.iinc 3 1, 3) := by decide +kernel
theorem dX9_share_46 : decode cX9_share 46 = .ok (.goto (-29), 3) := by decide +kernel
theorem dX9_share_49 : decode cX9_share 49 = .ok (.iconst 0, 1) := by decide +kernel
theorem dX9_share_50 : decode cX9_share 50 = .ok (.istore_n 3, 1) := by decide +kernel
theorem dX9_share_51 : decode cX9_share 51 = .ok (.iconst 0, 1) := by decide +kernel
theorem dX9_share_52 : decode cX9_share 52 = .ok (.istore 4, 2) := by decide +kernel
theorem dX9_share_54 : decode cX9_share 54 = .ok (.iload 4, 2) := by decide +kernel
theorem dX9_share_56 : decode cX9_share 56 = .ok (.iconst 1, 1) := by decide +kernel
theorem dX9_share_57 : decode cX9_share 57 = .ok (.aload_n 0, 1) := by decide +kernel
theorem dX9_share_58 : decode cX9_share 58 = .ok (.getfield 57, 3) := by decide +kernel
theorem dX9_share_61 : decode cX9_share 61 = .ok (.ishl, 1) := by decide +kernel
theorem dX9_share_62 : decode cX9_share 62 = .ok (.if_icmp .ge 66, 3) := by decide +kernel
theorem dX9_share_65 : decode cX9_share 65 = .ok (.iload 4, 2) := by decide +kernel
theorem dX9_share_67 : decode cX9_share 67 = .ok (.iload_n 1, 1) := by decide +kernel
theorem dX9_share_68 : decode cX9_share 68 = .ok (.invokestatic 110, 3) := by decide +kernel
theorem dX9_share_71 : decode cX9_share 71 = .ok (.ifCond .ne 51, 3) := by decide +kernel
theorem dX9_share_74 : decode cX9_share 74 = .ok (.iload 4, 2) := by decide +kernel
theorem dX9_share_76 : decode cX9_share 76 = .ok (.invokestatic 185, 3) := by decide +kernel
theorem dX9_share_79 : decode cX9_share 79 = .ok (.istore 5, 2) := by decide +kernel
theorem dX9_share_81 : decode cX9_share 81 = .ok (.iload_n 3, 1) := by decide +kernel
theorem dX9_share_82 : decode cX9_share 82 = .ok (.iload 5, 2) := by decide +kernel
theorem dX9_share_84 : decode cX9_share 84 = .ok (.invokestatic 188, 3) := by decide +kernel
theorem dX9_share_87 : decode cX9_share 87 = .ok (.aload_n 0, 1) := by decide +kernel
theorem dX9_share_88 : decode cX9_share 88 = .ok (.getfield 57, 3) := by decide +kernel
theorem dX9_share_91 : decode cX9_share 91 = .ok (.iconst 1, 1) := by decide +kernel
theorem dX9_share_92 : decode cX9_share 92 = .ok (.isub, 1) := by decide +kernel
theorem dX9_share_93 : decode cX9_share 93 = .ok (.iload 5, 2) := by decide +kernel
theorem dX9_share_95 : decode cX9_share 95 = .ok (.isub, 1) := by decide +kernel
theorem dX9_share_96 : decode cX9_share 96 = .ok (.invokestatic 188, 3) := by decide +kernel
theorem dX9_share_99 : decode cX9_share 99 = .ok (.imul, 1) := by decide +kernel
theorem dX9_share_100 : decode cX9_share 100 = .ok (.aload_n 0, 1) := by decide +kernel
theorem dX9_share_101 : decode cX9_share 101 = .ok (.getfield 50, 3) := by decide +kernel
theorem dX9_share_104 : decode cX9_share 104 = .ok (.iload 4, 2) := by decide +kernel
theorem dX9_share_106 : decode cX9_share 106 = .ok (.iconst 1, 1) := by decide +kernel
theorem dX9_share_107 : decode cX9_share 107 = .ok (.iload_n 1, 1) := by decide +kernel
theorem dX9_share_108 : decode cX9_share 108 = .ok (.ishl, 1) := by decide +kernel
theorem dX9_share_109 : decode cX9_share 109 = .ok (.ior, 1) := by decide +kernel
theorem dX9_share_110 : decode cX9_share 110 = .ok (.iaload, 1) := by decide +kernel
theorem dX9_share_111 : decode cX9_share 111 = .ok (.aload_n 0, 1) := by decide +kernel
theorem dX9_share_112 : decode cX9_share 112 = .ok (.getfield 50, 3) := by decide +kernel
theorem dX9_share_115 : decode cX9_share 115 = .ok (.iload 4, 2) := by decide +kernel
theorem dX9_share_117 : decode cX9_share 117 = .ok (.iaload, 1) := by decide +kernel
theorem dX9_share_118 : decode cX9_share 118 = .ok (.isub, 1) := by decide +kernel
theorem dX9_share_119 : decode cX9_share 119 = .ok (.imul, 1) := by decide +kernel
theorem dX9_share_120 : decode cX9_share 120 = .ok (.iadd, 1) := by decide +kernel
theorem dX9_share_121 : decode cX9_share 121 = .ok (.istore_n 3, 1) := by decide +kernel
theorem dX9_share_122 : decode cX9_share 122 = .ok (.iinc 4 1, 3) := by decide +kernel
theorem dX9_share_125 : decode cX9_share 125 = .ok (.goto (-71), 3) := by decide +kernel
theorem dX9_share_128 : decode cX9_share 128 = .ok (.iload_n 3, 1) := by decide +kernel
theorem dX9_share_129 : decode cX9_share 129 = .ok (.aload_n 0, 1) := by decide +kernel
theorem dX9_share_130 : decode cX9_share 130 = .ok (.getfield 57, 3) := by decide +kernel
theorem dX9_share_133 : decode cX9_share 133 = .ok (.invokestatic 188, 3) := by decide +kernel
theorem dX9_share_136 : decode cX9_share 136 = .ok (.iload_n 2, 1) := by decide +kernel
theorem dX9_share_137 : decode cX9_share 137 = .ok (.invokestatic 191, 3) := by decide +kernel
theorem dX9_share_140 : decode cX9_share 140 = .ok (.ireturn, 1) := by decide +kernel
theorem dX9_see_0 : decode cX9_see 0 = .ok (.aload_n 0, 1) := by decide +kernel
theorem dX9_see_1 : decode cX9_see 1 = .ok (.iconst 0, 1) := by decide +kernel
theorem dX9_see_2 : decode cX9_see 2 = .ok (.putfield 53, 3) := by decide +kernel
theorem dX9_see_5 : decode cX9_see 5 = .ok (.iload_n 1, 1) := by decide +kernel
theorem dX9_see_6 : decode cX9_see 6 = .ok (.i2l, 1) := by decide +kernel
theorem dX9_see_7 : decode cX9_see 7 = .ok (.lconst 0, 1) := by decide +kernel
theorem dX9_see_8 : decode cX9_see 8 = .ok (.ldc2_w 195, 3) := by decide +kernel
theorem dX9_see_11 : decode cX9_see 11 = .ok (.invokestatic 60, 3) := by decide +kernel
theorem dX9_see_14 : decode cX9_see 14 = .ok (.ifCond .eq 27, 3) := by decide +kernel
theorem dX9_see_17 : decode cX9_see 17 = .ok (.iload_n 2, 1) := by decide +kernel
theorem dX9_see_18 : decode cX9_see 18 = .ok (.i2l, 1) := by decide +kernel
theorem dX9_see_19 : decode cX9_see 19 = .ok (.lconst 0, 1) := by decide +kernel
theorem dX9_see_20 : decode cX9_see 20 = .ok (.ldc2_w 172, 3) := by decide +kernel
theorem dX9_see_23 : decode cX9_see 23 = .ok (.invokestatic 60, 3) := by decide +kernel
theorem dX9_see_26 : decode cX9_see 26 = .ok (.ifCond .eq 15, 3) := by decide +kernel
theorem dX9_see_29 : decode cX9_see 29 = .ok (.iload_n 3, 1) := by decide +kernel
theorem dX9_see_30 : decode cX9_see 30 = .ok (.i2l, 1) := by decide +kernel
theorem dX9_see_31 : decode cX9_see 31 = .ok (.lconst 0, 1) := by decide +kernel
theorem dX9_see_32 : decode cX9_see 32 = .ok (.ldc2_w 197, 3) := by decide +kernel
theorem dX9_see_35 : decode cX9_see 35 = .ok (.invokestatic 60, 3) := by decide +kernel
theorem dX9_see_38 : decode cX9_see 38 = .ok (.ifCond .ne 6, 3) := by decide +kernel
theorem dX9_see_41 : decode cX9_see 41 = .ok (.bipush (-2), 2) := by decide +kernel
theorem dX9_see_43 : decode cX9_see 43 = .ok (.ireturn, 1) := by decide +kernel
theorem dX9_see_44 : decode cX9_see 44 = .ok (.aload_n 0, 1) := by decide +kernel
theorem dX9_see_45 : decode cX9_see 45 = .ok (.getfield 125, 3) := by decide +kernel
theorem dX9_see_48 : decode cX9_see 48 = .ok (.bipush 6, 2) := by decide +kernel
theorem dX9_see_50 : decode cX9_see 50 = .ok (.if_icmp .ne 6, 3) := by decide +kernel
theorem dX9_see_53 : decode cX9_see 53 = .ok (.bipush (-4), 2) := by decide +kernel
theorem dX9_see_55 : decode cX9_see 55 = .ok (.ireturn, 1) := by decide +kernel
theorem dX9_see_56 : decode cX9_see 56 = .ok (.aload_n 0, 1) := by decide +kernel
theorem dX9_see_57 : decode cX9_see 57 = .ok (.getfield 41, 3) := by decide +kernel
theorem dX9_see_60 : decode cX9_see 60 = .ok (.aload_n 0, 1) := by decide +kernel
theorem dX9_see_61 : decode cX9_see 61 = .ok (.getfield 125, 3) := by decide +kernel
theorem dX9_see_64 : decode cX9_see 64 = .ok (.iload_n 1, 1) := by decide +kernel
theorem dX9_see_65 : decode cX9_see 65 = .ok (.iastore, 1) := by decide +kernel
theorem dX9_see_66 : decode cX9_see 66 = .ok (.aload_n 0, 1) := by decide +kernel
theorem dX9_see_67 : decode cX9_see 67 = .ok (.getfield 44, 3) := by decide +kernel
theorem dX9_see_70 : decode cX9_see 70 = .ok (.aload_n 0, 1) := by decide +kernel
theorem dX9_see_71 : decode cX9_see 71 = .ok (.getfield 125, 3) := by decide +kernel
theorem dX9_see_74 : decode cX9_see 74 = .ok (.iload_n 2, 1) := by decide +kernel
theorem dX9_see_75 : decode cX9_see 75 = .ok (.iastore, 1) := by decide +kernel
theorem dX9_see_76 : decode cX9_see 76 = .ok (.aload_n 0, 1) := by decide +kernel
theorem dX9_see_77 : decode cX9_see 77 = .ok (.getfield 47, 3) := by decide +kernel
theorem dX9_see_80 : decode cX9_see 80 = .ok (.aload_n 0, 1) := by decide +kernel
theorem dX9_see_81 : decode cX9_see 81 = .ok (.getfield 125, 3) := by decide +kernel
theorem dX9_see_84 : decode cX9_see 84 = .ok (.iload_n 3, 1) := by decide +kernel
theorem dX9_see_85 : decode cX9_see 85 = .ok (.iastore, 1) := by decide +kernel
theorem dX9_see_86 : decode cX9_see 86 = .ok (.aload_n 0, 1) := by decide +kernel
theorem dX9_see_87 : decode cX9_see 87 = .ok (.dup, 1) := by decide +kernel
theorem dX9_see_88 : decode cX9_see 88 = .ok (.getfield 125, 3) := by decide +kernel
theorem dX9_see_91 : decode cX9_see 91 = .ok (.iconst 1, 1) := by decide +kernel
theorem dX9_see_92 : decode cX9_see 92 = .ok (.iadd, 1) := by decide +kernel
theorem dX9_see_93 : decode cX9_see 93 = .ok (.putfield 125, 3) := by decide +kernel
theorem dX9_see_96 : decode cX9_see 96 = .ok (.aload_n 0, 1) := by decide +kernel
theorem dX9_see_97 : decode cX9_see 97 = .ok (.getfield 125, 3) := by decide +kernel
theorem dX9_see_100 : decode cX9_see 100 = .ok (.ireturn, 1) := by decide +kernel
theorem dX9_unsee_0 : decode cX9_unsee 0 = .ok (.aload_n 0, 1) := by decide +kernel
theorem dX9_unsee_1 : decode cX9_unsee 1 = .ok (.iconst 0, 1) := by decide +kernel
theorem dX9_unsee_2 : decode cX9_unsee 2 = .ok (.putfield 53, 3) := by decide +kernel
theorem dX9_unsee_5 : decode cX9_unsee 5 = .ok (.aload_n 0, 1) := by decide +kernel
theorem dX9_unsee_6 : decode cX9_unsee 6 = .ok (.getfield 125, 3) := by decide +kernel
theorem dX9_unsee_9 : decode cX9_unsee 9 = .ok (.istore_n 1, 1) := by decide +kernel
theorem dX9_unsee_10 : decode cX9_unsee 10 = .ok (.aload_n 0, 1) := by decide +kernel
theorem dX9_unsee_11 : decode cX9_unsee 11 = .ok (.iconst 0, 1) := by decide +kernel
theorem dX9_unsee_12 : decode cX9_unsee 12 = .ok (.putfield 125, 3) := by decide +kernel
theorem dX9_unsee_15 : decode cX9_unsee 15 = .ok (.iload_n 1, 1) := by decide +kernel
theorem dX9_unsee_16 : decode cX9_unsee 16 = .ok (.ireturn, 1) := by decide +kernel
theorem dX9_palates_0 : decode cX9_palates 0 = .ok (.aload_n 0, 1) := by decide +kernel
theorem dX9_palates_1 : decode cX9_palates 1 = .ok (.iconst 0, 1) := by decide +kernel
theorem dX9_palates_2 : decode cX9_palates 2 = .ok (.putfield 53, 3) := by decide +kernel
theorem dX9_palates_5 : decode cX9_palates 5 = .ok (.iload_n 1, 1) := by decide +kernel
theorem dX9_palates_6 : decode cX9_palates 6 = .ok (.i2l, 1) := by decide +kernel
theorem dX9_palates_7 : decode cX9_palates 7 = .ok (.lconst 0, 1) := by decide +kernel
theorem dX9_palates_8 : decode cX9_palates 8 = .ok (.ldc2_w 195, 3) := by decide +kernel
theorem dX9_palates_11 : decode cX9_palates 11 = .ok (.invokestatic 60, 3) := by decide +kernel
theorem dX9_palates_14 : decode cX9_palates 14 = .ok (.ifCond .ne 6, 3) := by decide +kernel
theorem dX9_palates_17 : decode cX9_palates 17 = .ok (.bipush (-2), 2) := by decide +kernel
theorem dX9_palates_19 : decode cX9_palates 19 = .ok (.ireturn, 1) := by decide +kernel
theorem dX9_palates_20 : decode cX9_palates 20 = .ok (.iconst 0, 1) := by decide +kernel
theorem dX9_palates_21 : decode cX9_palates 21 = .ok (.istore_n 2, 1) := by decide +kernel
theorem dX9_palates_22 : decode cX9_palates 22 = .ok (.iconst 0, 1) := by decide +kernel
theorem dX9_palates_23 : decode cX9_palates 23 = .ok (.istore_n 3, 1) := by decide +kernel
theorem dX9_palates_24 : decode cX9_palates 24 = .ok (.iload_n 3, 1) := by decide +kernel
theorem dX9_palates_25 : decode cX9_palates 25 = .ok (.bipush 10, 2) := by decide +kernel
theorem dX9_palates_27 : decode cX9_palates 27 = .ok (.if_icmp .ge 90, 3) := by decide +kernel
theorem dX9_palates_30 : decode cX9_palates 30 = .ok (.iconst 1, 1) := by decide +kernel
theorem dX9_palates_31 : decode cX9_palates 31 = .ok (.istore 4, 2) := by decide +kernel
theorem dX9_palates_33 : decode cX9_palates 33 = .ok (.iconst 0, 1) := by decide +kernel
theorem dX9_palates_34 : decode cX9_palates 34 = .ok (.istore 5, 2) := by decide +kernel
theorem dX9_palates_36 : decode cX9_palates 36 = .ok (.iload 5, 2) := by decide +kernel
theorem dX9_palates_38 : decode cX9_palates 38 = .ok (.aload_n 0, 1) := by decide +kernel
theorem dX9_palates_39 : decode cX9_palates 39 = .ok (.getfield 125, 3) := by decide +kernel
theorem dX9_palates_42 : decode cX9_palates 42 = .ok (.if_icmp .ge 54, 3) := by decide +kernel
theorem dX9_palates_45 : decode cX9_palates 45 = .ok (.iload 4, 2) := by decide +kernel
theorem dX9_palates_47 : decode cX9_palates 47 = .ok (.ifCond .eq 40, 3) := by decide +kernel
theorem dX9_palates_50 : decode cX9_palates 50 = .ok (.aload_n 0, 1) := by decide +kernel
theorem dX9_palates_51 : decode cX9_palates 51 = .ok (.getfield 41, 3) := by decide +kernel
theorem dX9_palates_54 : decode cX9_palates 54 = .ok (.iload 5, 2) := by decide +kernel
theorem dX9_palates_56 : decode cX9_palates 56 = .ok (.iaload, 1) := by decide +kernel
theorem dX9_palates_57 : decode cX9_palates 57 = .ok (.iload_n 1, 1) := by decide +kernel
theorem dX9_palates_58 : decode cX9_palates 58 = .ok (.if_icmp .ne 25, 3) := by decide +kernel
theorem dX9_palates_61 : decode cX9_palates 61 = .ok (.iload_n 3, 1) := by decide +kernel
theorem dX9_palates_62 : decode cX9_palates 62 = .ok (.iload_n 1, 1) := by decide +kernel
theorem dX9_palates_63 : decode cX9_palates 63 = .ok (.aload_n 0, 1) := by decide +kernel
theorem dX9_palates_64 : decode cX9_palates 64 = .ok (.getfield 44, 3) := by decide +kernel
theorem dX9_palates_67 : decode cX9_palates 67 = .ok (.iload 5, 2) := by decide +kernel
theorem dX9_palates_69 : decode cX9_palates 69 = .ok (.iaload, 1) := by decide +kernel
theorem dX9_palates_70 : decode cX9_palates 70 = .ok (.invokestatic 106, 3) := by decide +kernel
theorem dX9_palates_73 : decode cX9_palates 73 = .ok (.aload_n 0, 1) := by decide +kernel
theorem dX9_palates_74 : decode cX9_palates 74 = .ok (.getfield 47, 3) := by decide +kernel
theorem dX9_palates_77 : decode cX9_palates 77 = .ok (.iload 5, 2) := by decide +kernel
theorem dX9_palates_79 : decode cX9_palates 79 = .ok (.iaload, 1) := by decide +kernel
theorem dX9_palates_80 : decode cX9_palates 80 = .ok (.if_icmp .ne 7, 3) := by decide +kernel
theorem dX9_palates_83 : decode cX9_palates 83 = .ok (.iconst 1, 1) := by decide +kernel
theorem dX9_palates_84 : decode cX9_palates 84 = .ok (.goto 4, 3) := by decide +kernel
theorem dX9_palates_87 : decode cX9_palates 87 = .ok (.iconst 0, 1) := by decide +kernel
theorem dX9_palates_88 : decode cX9_palates 88 = .ok (.istore 4, 2) := by decide +kernel
theorem dX9_palates_90 : decode cX9_palates 90 = .ok (.iinc 5 1, 3) := by decide +kernel
theorem dX9_palates_93 : decode cX9_palates 93 = .ok (.goto (-57), 3) := by decide +kernel
theorem dX9_palates_96 : decode cX9_palates 96 = .ok (.iload_n 2, 1) := by decide +kernel
theorem dX9_palates_97 : decode cX9_palates 97 = .ok (.iload 4, 2) := by decide +kernel
theorem dX9_palates_99 : decode cX9_palates 99 = .ok (.ifCond .eq 9, 3) := by decide +kernel
theorem dX9_palates_102 : decode cX9_palates 102 = .ok (.iconst 1, 1) := by decide +kernel
theorem dX9_palates_103 : decode cX9_palates 103 = .ok (.iload_n 3, 1) := by decide +kernel
theorem dX9_palates_104 : decode cX9_palates 104 = .ok (.ishl, 1) := by decide +kernel
theorem dX9_palates_105 : decode cX9_palates 105 = .ok (.goto 4, 3) := by decide +kernel
theorem dX9_palates_108 : decode cX9_palates 108 = .ok (.iconst 0, 1) := by decide +kernel
theorem dX9_palates_109 : decode cX9_palates 109 = .ok (.ior, 1) := by decide +kernel
theorem dX9_palates_110 : decode cX9_palates 110 = .ok (.istore_n 2, 1) := by decide +kernel
theorem dX9_palates_111 : decode cX9_palates 111 = .ok (.iinc 3 1, 3) := by decide +kernel
theorem dX9_palates_114 : decode cX9_palates 114 = .ok (.goto (-90), 3) := by decide +kernel
theorem dX9_palates_117 : decode cX9_palates 117 = .ok (.iload_n 2, 1) := by decide +kernel
theorem dX9_palates_118 : decode cX9_palates 118 = .ok (.ireturn, 1) := by decide +kernel
theorem dX9_lossOf_0 : decode cX9_lossOf 0 = .ok (.iload_n 2, 1) := by decide +kernel
theorem dX9_lossOf_1 : decode cX9_lossOf 1 = .ok (.iload_n 3, 1) := by decide +kernel
theorem dX9_lossOf_2 : decode cX9_lossOf 2 = .ok (.if_icmp .ge 7, 3) := by decide +kernel
theorem dX9_lossOf_5 : decode cX9_lossOf 5 = .ok (.iload_n 2, 1) := by decide +kernel
theorem dX9_lossOf_6 : decode cX9_lossOf 6 = .ok (.goto 4, 3) := by decide +kernel
theorem dX9_lossOf_9 : decode cX9_lossOf 9 = .ok (.iload_n 3, 1) := by decide +kernel
theorem dX9_lossOf_10 : decode cX9_lossOf 10 = .ok (.istore 4, 2) := by decide +kernel
theorem dX9_lossOf_12 : decode cX9_lossOf 12 = .ok (.iload_n 2, 1) := by decide +kernel
theorem dX9_lossOf_13 : decode cX9_lossOf 13 = .ok (.iload_n 3, 1) := by decide +kernel
theorem dX9_lossOf_14 : decode cX9_lossOf 14 = .ok (.if_icmp .ne 7, 3) := by decide +kernel
theorem dX9_lossOf_17 : decode cX9_lossOf 17 = .ok (.iconst 2, 1) := by decide +kernel
theorem dX9_lossOf_18 : decode cX9_lossOf 18 = .ok (.goto 13, 3) := by decide +kernel
theorem dX9_lossOf_21 : decode cX9_lossOf 21 = .ok (.iload_n 2, 1) := by decide +kernel
theorem dX9_lossOf_22 : decode cX9_lossOf 22 = .ok (.iload_n 3, 1) := by decide +kernel
theorem dX9_lossOf_23 : decode cX9_lossOf 23 = .ok (.if_icmp .ge 7, 3) := by decide +kernel
theorem dX9_lossOf_26 : decode cX9_lossOf 26 = .ok (.iconst 4, 1) := by decide +kernel
theorem dX9_lossOf_27 : decode cX9_lossOf 27 = .ok (.goto 4, 3) := by decide +kernel
theorem dX9_lossOf_30 : decode cX9_lossOf 30 = .ok (.iconst 0, 1) := by decide +kernel
theorem dX9_lossOf_31 : decode cX9_lossOf 31 = .ok (.istore 5, 2) := by decide +kernel
theorem dX9_lossOf_33 : decode cX9_lossOf 33 = .ok (.iconst 0, 1) := by decide +kernel
theorem dX9_lossOf_34 : decode cX9_lossOf 34 = .ok (.istore 6, 2) := by decide +kernel
theorem dX9_lossOf_36 : decode cX9_lossOf 36 = .ok (.iload 6, 2) := by decide +kernel
theorem dX9_lossOf_38 : decode cX9_lossOf 38 = .ok (.iload 4, 2) := by decide +kernel
theorem dX9_lossOf_40 : decode cX9_lossOf 40 = .ok (.if_icmp .ge 43, 3) := by decide +kernel
theorem dX9_lossOf_43 : decode cX9_lossOf 43 = .ok (.iload 5, 2) := by decide +kernel
theorem dX9_lossOf_45 : decode cX9_lossOf 45 = .ok (.aload_n 0, 1) := by decide +kernel
theorem dX9_lossOf_46 : decode cX9_lossOf 46 = .ok (.iload_n 1, 1) := by decide +kernel
theorem dX9_lossOf_47 : decode cX9_lossOf 47 = .ok (.aload_n 0, 1) := by decide +kernel
theorem dX9_lossOf_48 : decode cX9_lossOf 48 = .ok (.getfield 25, 3) := by decide +kernel
theorem dX9_lossOf_51 : decode cX9_lossOf 51 = .ok (.iconst 0, 1) := by decide +kernel
theorem dX9_lossOf_52 : decode cX9_lossOf 52 = .ok (.iaload, 1) := by decide +kernel
theorem dX9_lossOf_53 : decode cX9_lossOf 53 = .ok (.iload 6, 2) := by decide +kernel
theorem dX9_lossOf_55 : decode cX9_lossOf 55 = .ok (.if_icmp .le 15, 3) := by decide +kernel
theorem dX9_lossOf_58 : decode cX9_lossOf 58 = .ok (.aload_n 0, 1) := by decide +kernel
theorem dX9_lossOf_59 : decode cX9_lossOf 59 = .ok (.getfield 25, 3) := by decide +kernel
theorem dX9_lossOf_62 : decode cX9_lossOf 62 = .ok (.iconst 0, 1) := by decide +kernel
theorem dX9_lossOf_63 : decode cX9_lossOf 63 = .ok (.iaload, 1) := by decide +kernel
theorem dX9_lossOf_64 : decode cX9_lossOf 64 = .ok (.iload 6, 2) := by decide +kernel
theorem dX9_lossOf_66 : decode cX9_lossOf 66 = .ok (.isub, 1) := by decide +kernel
theorem dX9_lossOf_67 : decode cX9_lossOf 67 = .ok (.goto 4, 3) := by decide +kernel
theorem dX9_lossOf_70 : decode cX9_lossOf 70 = .ok (.iconst 0, 1) := by decide +kernel
theorem dX9_lossOf_71 : decode cX9_lossOf 71 = .ok (.invokevirtual 118, 3) := by decide +kernel
theorem dX9_lossOf_74 : decode cX9_lossOf 74 = .ok (.iadd, 1) := by decide +kernel
theorem dX9_lossOf_75 : decode cX9_lossOf 75 = .ok (.istore 5, 2) := by decide +kernel
theorem dX9_lossOf_77 : decode cX9_lossOf 77 = .ok (.iinc 6 1, 3) := by decide +kernel
theorem dX9_lossOf_80 : decode cX9_lossOf 80 = .ok (.goto (-44), 3) := by decide +kernel
theorem dX9_lossOf_83 : decode cX9_lossOf 83 = .ok (.iload 5, 2) := by decide +kernel
theorem dX9_lossOf_85 : decode cX9_lossOf 85 = .ok (.ireturn, 1) := by decide +kernel
theorem dX9_findRests_0 : decode cX9_findRests 0 = .ok (.aload_n 0, 1) := by decide +kernel
theorem dX9_findRests_1 : decode cX9_findRests 1 = .ok (.iconst 0, 1) := by decide +kernel
theorem dX9_findRests_2 : decode cX9_findRests 2 = .ok (.putfield 199, 3) := by decide +kernel
theorem dX9_findRests_5 : decode cX9_findRests 5 = .ok (.aload_n 0, 1) := by decide +kernel
theorem dX9_findRests_6 : decode cX9_findRests 6 = .ok (.bipush (-9), 2) := by decide +kernel
theorem dX9_findRests_8 : decode cX9_findRests 8 = .ok (.putfield 202, 3) := by decide +kernel
theorem dX9_findRests_11 : decode cX9_findRests 11 = .ok (.iconst 0, 1) := by decide +kernel
theorem dX9_findRests_12 : decode cX9_findRests 12 = .ok (.istore_n 3, 1) := by decide +kernel
theorem dX9_findRests_13 : decode cX9_findRests 13 = .ok (.iload_n 3, 1) := by decide +kernel
theorem dX9_findRests_14 : decode cX9_findRests 14 = .ok (.iconst 5, 1) := by decide +kernel
theorem dX9_findRests_15 : decode cX9_findRests 15 = .ok (.if_icmp .ge 142, 3) := by decide +kernel
theorem dX9_findRests_18 : decode cX9_findRests 18 = .ok (.iconst 0, 1) := by decide +kernel
theorem dX9_findRests_19 : decode cX9_findRests 19 = .ok (.istore 4, 2) := by decide +kernel
theorem dX9_findRests_21 : decode cX9_findRests 21 = .ok (.iload 4, 2) := by decide +kernel
theorem dX9_findRests_23 : decode cX9_findRests 23 = .ok (.iconst 5, 1) := by decide +kernel
theorem dX9_findRests_24 : decode cX9_findRests 24 = .ok (.if_icmp .ge 127, 3) := by decide +kernel
theorem dX9_findRests_27 : decode cX9_findRests 27 = .ok (.iconst 1, 1) := by decide +kernel
theorem dX9_findRests_28 : decode cX9_findRests 28 = .ok (.istore 5, 2) := by decide +kernel
theorem dX9_findRests_30 : decode cX9_findRests 30 = .ok (.iconst 0, 1) := by decide +kernel
theorem dX9_findRests_31 : decode cX9_findRests 31 = .ok (.istore 6, 2) := by decide +kernel
theorem dX9_findRests_33 : decode cX9_findRests 33 = .ok (.iload 6, 2) := by decide +kernel
theorem dX9_findRests_35 : decode cX9_findRests 35 = .ok (.iconst 5, 1) := by decide +kernel
theorem dX9_findRests_36 : decode cX9_findRests 36 = .ok (.if_icmp .ge 60, 3) := by decide +kernel
theorem dX9_findRests_39 : decode cX9_findRests 39 = .ok (.iload 5, 2) := by decide +kernel
theorem dX9_findRests_41 : decode cX9_findRests 41 = .ok (.ifCond .eq 46, 3) := by decide +kernel
theorem dX9_findRests_44 : decode cX9_findRests 44 = .ok (.aload_n 0, 1) := by decide +kernel
theorem dX9_findRests_45 : decode cX9_findRests 45 = .ok (.iload_n 1, 1) := by decide +kernel
theorem dX9_findRests_46 : decode cX9_findRests 46 = .ok (.iload 6, 2) := by decide +kernel
theorem dX9_findRests_48 : decode cX9_findRests 48 = .ok (.iload 4, 2) := by decide +kernel
theorem dX9_findRests_50 : decode cX9_findRests 50 = .ok (.invokevirtual 205, 3) := by decide +kernel
theorem dX9_findRests_53 : decode cX9_findRests 53 = .ok (.aload_n 0, 1) := by decide +kernel
theorem dX9_findRests_54 : decode cX9_findRests 54 = .ok (.iload_n 1, 1) := by decide +kernel
theorem dX9_findRests_55 : decode cX9_findRests 55 = .ok (.iload_n 3, 1) := by decide +kernel
theorem dX9_findRests_56 : decode cX9_findRests 56 = .ok (.iload 4, 2) := by decide +kernel
theorem dX9_findRests_58 : decode cX9_findRests 58 = .ok (.invokevirtual 205, 3) := by decide +kernel
theorem dX9_findRests_61 : decode cX9_findRests 61 = .ok (.if_icmp .lt 26, 3) := by decide +kernel
theorem dX9_findRests_64 : decode cX9_findRests 64 = .ok (.aload_n 0, 1) := by decide +kernel
theorem dX9_findRests_65 : decode cX9_findRests 65 = .ok (.iload_n 2, 1) := by decide +kernel
theorem dX9_findRests_66 : decode cX9_findRests 66 = .ok (.iload 6, 2) := by decide +kernel
theorem dX9_findRests_68 : decode cX9_findRests 68 = .ok (.iload_n 3, 1) := by decide +kernel
theorem dX9_findRests_69 : decode cX9_findRests 69 = .ok (.invokevirtual 205, 3) := by decide +kernel
theorem dX9_findRests_72 : decode cX9_findRests 72 = .ok (.aload_n 0, 1) := by decide +kernel
theorem dX9_findRests_73 : decode cX9_findRests 73 = .ok (.iload_n 2, 1) := by decide +kernel
theorem dX9_findRests_74 : decode cX9_findRests 74 = .ok (.iload 4, 2) := by decide +kernel
theorem dX9_findRests_76 : decode cX9_findRests 76 = .ok (.iload_n 3, 1) := by decide +kernel
theorem dX9_findRests_77 : decode cX9_findRests 77 = .ok (.invokevirtual 205, 3) := by decide +kernel
theorem dX9_findRests_80 : decode cX9_findRests 80 = .ok (.if_icmp .lt 7, 3) := by decide +kernel
theorem dX9_findRests_83 : decode cX9_findRests 83 = .ok (.iconst 1, 1) := by decide +kernel
theorem dX9_findRests_84 : decode cX9_findRests 84 = .ok (.goto 4, 3) := by decide +kernel
theorem dX9_findRests_87 : decode cX9_findRests 87 = .ok (.iconst 0, 1) := by decide +kernel
theorem dX9_findRests_88 : decode cX9_findRests 88 = .ok (.istore 5, 2) := by decide +kernel
theorem dX9_findRests_90 : decode cX9_findRests 90 = .ok (.iinc 6 1, 3) := by decide +kernel
theorem dX9_findRests_93 : decode cX9_findRests 93 = .ok (.goto (-60), 3) := by decide +kernel
theorem dX9_findRests_96 : decode cX9_findRests 96 = .ok (.aload_n 0, 1) := by decide +kernel
theorem dX9_findRests_97 : decode cX9_findRests 97 = .ok (.iload 5, 2) := by decide +kernel
theorem dX9_findRests_99 : decode cX9_findRests 99 = .ok (.ifCond .eq 20, 3) := by decide +kernel
theorem dX9_findRests_102 : decode cX9_findRests 102 = .ok (.aload_n 0, 1) := by decide +kernel
theorem dX9_findRests_103 : decode cX9_findRests 103 = .ok (.getfield 199, 3) := by decide +kernel
theorem dX9_findRests_106 : decode cX9_findRests 106 = .ok (.ifCond .ne 13, 3) := by decide +kernel
theorem dX9_findRests_109 : decode cX9_findRests 109 = .ok (.bipush 10, 2) := by decide +kernel
theorem dX9_findRests_111 : decode cX9_findRests 111 = .ok (.iload_n 3, 1) := by decide +kernel
theorem dX9_findRests_112 : decode cX9_findRests 112 = .ok (.imul, 1) := by decide +kernel
theorem dX9_findRests_113 : decode cX9_findRests 113 = .ok (.iload 4, 2) := by decide +kernel
theorem dX9_findRests_115 : decode cX9_findRests 115 = .ok (.iadd, 1) := by decide +kernel
theorem dX9_findRests_116 : decode cX9_findRests 116 = .ok (.goto 7, 3) := by decide +kernel
theorem dX9_findRests_119 : decode cX9_findRests 119 = .ok (.aload_n 0, 1) := by decide +kernel
theorem dX9_findRests_120 : decode cX9_findRests 120 = .ok (.getfield 202, 3) := by decide +kernel
theorem dX9_findRests_123 : decode cX9_findRests 123 = .ok (.putfield 202, 3) := by decide +kernel
theorem dX9_findRests_126 : decode cX9_findRests 126 = .ok (.aload_n 0, 1) := by decide +kernel
theorem dX9_findRests_127 : decode cX9_findRests 127 = .ok (.dup, 1) := by decide +kernel
theorem dX9_findRests_128 : decode cX9_findRests 128 = .ok (.getfield 199, 3) := by decide +kernel
theorem dX9_findRests_131 : decode cX9_findRests 131 = .ok (.iload 5, 2) := by decide +kernel
theorem dX9_findRests_133 : decode cX9_findRests 133 = .ok (.ifCond .eq 7, 3) := by decide +kernel
theorem dX9_findRests_136 : decode cX9_findRests 136 = .ok (.iconst 1, 1) := by decide +kernel
theorem dX9_findRests_137 : decode cX9_findRests 137 = .ok (.goto 4, 3) := by decide +kernel
theorem dX9_findRests_140 : decode cX9_findRests 140 = .ok (.iconst 0, 1) := by decide +kernel
theorem dX9_findRests_141 : decode cX9_findRests 141 = .ok (.iadd, 1) := by decide +kernel
theorem dX9_findRests_142 : decode cX9_findRests 142 = .ok (.putfield 199, 3) := by decide +kernel
theorem dX9_findRests_145 : decode cX9_findRests 145 = .ok (.iinc 4 1, 3) := by decide +kernel
theorem dX9_findRests_148 : decode cX9_findRests 148 = .ok (.goto (-127), 3) := by decide +kernel
theorem dX9_findRests_151 : decode cX9_findRests 151 = .ok (.iinc 3 1, 3) := by decide +kernel
theorem dX9_findRests_154 : decode cX9_findRests 154 = .ok (.goto (-141), 3) := by decide +kernel
theorem dX9_findRests_157 : decode cX9_findRests 157 = .ok (.return_, 1) := by decide +kernel
theorem dX9_rests_0 : decode cX9_rests 0 = .ok (.aload_n 0, 1) := by decide +kernel
theorem dX9_rests_1 : decode cX9_rests 1 = .ok (.iconst 0, 1) := by decide +kernel
theorem dX9_rests_2 : decode cX9_rests 2 = .ok (.putfield 53, 3) := by decide +kernel
theorem dX9_rests_5 : decode cX9_rests 5 = .ok (.aload_n 0, 1) := by decide +kernel
theorem dX9_rests_6 : decode cX9_rests 6 = .ok (.iload_n 1, 1) := by decide +kernel
theorem dX9_rests_7 : decode cX9_rests 7 = .ok (.invokevirtual 128, 3) := by decide +kernel
theorem dX9_rests_10 : decode cX9_rests 10 = .ok (.ifCond .ne 11, 3) := by decide +kernel
theorem dX9_rests_13 : decode cX9_rests 13 = .ok (.aload_n 0, 1) := by decide +kernel
theorem dX9_rests_14 : decode cX9_rests 14 = .ok (.iload_n 2, 1) := by decide +kernel
theorem dX9_rests_15 : decode cX9_rests 15 = .ok (.invokevirtual 128, 3) := by decide +kernel
theorem dX9_rests_18 : decode cX9_rests 18 = .ok (.ifCond .eq 5, 3) := by decide +kernel
theorem dX9_rests_21 : decode cX9_rests 21 = .ok (.iconst (-1), 1) := by decide +kernel
theorem dX9_rests_22 : decode cX9_rests 22 = .ok (.ireturn, 1) := by decide +kernel
theorem dX9_rests_23 : decode cX9_rests 23 = .ok (.iload_n 1, 1) := by decide +kernel
theorem dX9_rests_24 : decode cX9_rests 24 = .ok (.iload_n 2, 1) := by decide +kernel
theorem dX9_rests_25 : decode cX9_rests 25 = .ok (.if_icmp .eq 13, 3) := by decide +kernel
theorem dX9_rests_28 : decode cX9_rests 28 = .ok (.iload_n 3, 1) := by decide +kernel
theorem dX9_rests_29 : decode cX9_rests 29 = .ok (.i2l, 1) := by decide +kernel
theorem dX9_rests_30 : decode cX9_rests 30 = .ok (.lconst 0, 1) := by decide +kernel
theorem dX9_rests_31 : decode cX9_rests 31 = .ok (.lconst 1, 1) := by decide +kernel
theorem dX9_rests_32 : decode cX9_rests 32 = .ok (.invokestatic 60, 3) := by decide +kernel
theorem dX9_rests_35 : decode cX9_rests 35 = .ok (.ifCond .ne 6, 3) := by decide +kernel
theorem dX9_rests_38 : decode cX9_rests 38 = .ok (.bipush (-2), 2) := by decide +kernel
theorem dX9_rests_40 : decode cX9_rests 40 = .ok (.ireturn, 1) := by decide +kernel
theorem dX9_rests_41 : decode cX9_rests 41 = .ok (.aload_n 0, 1) := by decide +kernel
theorem dX9_rests_42 : decode cX9_rests 42 = .ok (.iload_n 1, 1) := by decide +kernel
theorem dX9_rests_43 : decode cX9_rests 43 = .ok (.iload_n 2, 1) := by decide +kernel
theorem dX9_rests_44 : decode cX9_rests 44 = .ok (.invokevirtual 208, 3) := by decide +kernel
theorem dX9_rests_47 : decode cX9_rests 47 = .ok (.iload_n 3, 1) := by decide +kernel
theorem dX9_rests_48 : decode cX9_rests 48 = .ok (.ifCond .ne 10, 3) := by decide +kernel
theorem dX9_rests_51 : decode cX9_rests 51 = .ok (.aload_n 0, 1) := by decide +kernel
theorem dX9_rests_52 : decode cX9_rests 52 = .ok (.getfield 199, 3) := by decide +kernel
theorem dX9_rests_55 : decode cX9_rests 55 = .ok (.goto 7, 3) := by decide +kernel
theorem dX9_rests_58 : decode cX9_rests 58 = .ok (.aload_n 0, 1) := by decide +kernel
theorem dX9_rests_59 : decode cX9_rests 59 = .ok (.getfield 202, 3) := by decide +kernel
theorem dX9_rests_62 : decode cX9_rests 62 = .ok (.ireturn, 1) := by decide +kernel
theorem dX9_chance_0 : decode cX9_chance 0 = .ok (.aload_n 0, 1) := by decide +kernel
theorem dX9_chance_1 : decode cX9_chance 1 = .ok (.iconst 0, 1) := by decide +kernel
theorem dX9_chance_2 : decode cX9_chance 2 = .ok (.putfield 53, 3) := by decide +kernel
theorem dX9_chance_5 : decode cX9_chance 5 = .ok (.aload_n 0, 1) := by decide +kernel
theorem dX9_chance_6 : decode cX9_chance 6 = .ok (.iload_n 1, 1) := by decide +kernel
theorem dX9_chance_7 : decode cX9_chance 7 = .ok (.invokevirtual 128, 3) := by decide +kernel
theorem dX9_chance_10 : decode cX9_chance 10 = .ok (.ifCond .eq 5, 3) := by decide +kernel
theorem dX9_chance_13 : decode cX9_chance 13 = .ok (.iconst (-1), 1) := by decide +kernel
theorem dX9_chance_14 : decode cX9_chance 14 = .ok (.ireturn, 1) := by decide +kernel
theorem dX9_chance_15 : decode cX9_chance 15 = .ok (.iload_n 2, 1) := by decide +kernel
theorem dX9_chance_16 : decode cX9_chance 16 = .ok (.i2l, 1) := by decide +kernel
theorem dX9_chance_17 : decode cX9_chance 17 = .ok (.lconst 1, 1) := by decide +kernel
theorem dX9_chance_18 : decode cX9_chance 18 = .ok (.ldc2_w 174, 3) := by decide +kernel
theorem dX9_chance_21 : decode cX9_chance 21 = .ok (.invokestatic 60, 3) := by decide +kernel
theorem dX9_chance_24 : decode cX9_chance 24 = .ok (.ifCond .eq 15, 3) := by decide +kernel
theorem dX9_chance_27 : decode cX9_chance 27 = .ok (.iload_n 3, 1) := by decide +kernel
theorem dX9_chance_28 : decode cX9_chance 28 = .ok (.i2l, 1) := by decide +kernel
theorem dX9_chance_29 : decode cX9_chance 29 = .ok (.lconst 0, 1) := by decide +kernel
theorem dX9_chance_30 : decode cX9_chance 30 = .ok (.ldc2_w 197, 3) := by decide +kernel
theorem dX9_chance_33 : decode cX9_chance 33 = .ok (.invokestatic 60, 3) := by decide +kernel
theorem dX9_chance_36 : decode cX9_chance 36 = .ok (.ifCond .ne 6, 3) := by decide +kernel
theorem dX9_chance_39 : decode cX9_chance 39 = .ok (.bipush (-2), 2) := by decide +kernel
theorem dX9_chance_41 : decode cX9_chance 41 = .ok (.ireturn, 1) := by decide +kernel
theorem dX9_chance_42 : decode cX9_chance 42 = .ok (.iconst 0, 1) := by decide +kernel
theorem dX9_chance_43 : decode cX9_chance 43 = .ok (.istore 5, 2) := by decide +kernel
theorem dX9_chance_45 : decode cX9_chance 45 = .ok (.iconst 0, 1) := by decide +kernel
theorem dX9_chance_46 : decode cX9_chance 46 = .ok (.istore 6, 2) := by decide +kernel
theorem dX9_chance_48 : decode cX9_chance 48 = .ok (.iload 6, 2) := by decide +kernel
theorem dX9_chance_50 : decode cX9_chance 50 = .ok (.iconst 1, 1) := by decide +kernel
theorem dX9_chance_51 : decode cX9_chance 51 = .ok (.iload_n 2, 1) := by decide +kernel
theorem dX9_chance_52 : decode cX9_chance 52 = .ok (.ishl, 1) := by decide +kernel
theorem dX9_chance_53 : decode cX9_chance 53 = .ok (.if_icmp .ge 150, 3) := by decide +kernel
theorem dX9_chance_56 : decode cX9_chance 56 = .ok (.aload_n 0, 1) := by decide +kernel
theorem dX9_chance_57 : decode cX9_chance 57 = .ok (.getfield 25, 3) := by decide +kernel
theorem dX9_chance_60 : decode cX9_chance 60 = .ok (.bipush 6, 2) := by decide +kernel
theorem dX9_chance_62 : decode cX9_chance 62 = .ok (.iaload, 1) := by decide +kernel
theorem dX9_chance_63 : decode cX9_chance 63 = .ok (.iload_n 1, 1) := by decide +kernel
theorem dX9_chance_64 : decode cX9_chance 64 = .ok (.invokestatic 110, 3) := by decide +kernel
theorem dX9_chance_67 : decode cX9_chance 67 = .ok (.ifCond .eq 136, 3) := by decide +kernel
theorem dX9_chance_70 : decode cX9_chance 70 = .ok (.aload_n 0, 1) := by decide +kernel
theorem dX9_chance_71 : decode cX9_chance 71 = .ok (.getfield 25, 3) := by decide +kernel
theorem dX9_chance_74 : decode cX9_chance 74 = .ok (.iconst 2, 1) := by decide +kernel
theorem dX9_chance_75 : decode cX9_chance 75 = .ok (.iload_n 1, 1) := by decide +kernel
theorem dX9_chance_76 : decode cX9_chance 76 = .ok (.iadd, 1) := by decide +kernel
theorem dX9_chance_77 : decode cX9_chance 77 = .ok (.iaload, 1) := by decide +kernel
theorem dX9_chance_78 : decode cX9_chance 78 = .ok (.istore 7, 2) := by decide +kernel
theorem dX9_chance_80 : decode cX9_chance 80 = .ok (.iconst 1, 1) := by decide +kernel
theorem dX9_chance_81 : decode cX9_chance 81 = .ok (.istore 8, 2) := by decide +kernel
theorem dX9_chance_83 : decode cX9_chance 83 = .ok (.iconst 0, 1) := by decide +kernel
theorem dX9_chance_84 : decode cX9_chance 84 = .ok (.istore 9, 2) := by decide +kernel
theorem dX9_chance_86 : decode cX9_chance 86 = .ok (.iload 9, 2) := by decide +kernel
theorem dX9_chance_88 : decode cX9_chance 88 = .ok (.iload_n 2, 1) := by decide +kernel
theorem dX9_chance_89 : decode cX9_chance 89 = .ok (.if_icmp .ge 80, 3) := by decide +kernel
theorem dX9_chance_92 : decode cX9_chance 92 = .ok (.iload 7, 2) := by decide +kernel
theorem dX9_chance_94 : decode cX9_chance 94 = .ok (.iload 6, 2) := by decide +kernel
theorem dX9_chance_96 : decode cX9_chance 96 = .ok (.iload 9, 2) := by decide +kernel
theorem dX9_chance_98 : decode cX9_chance 98 = .ok (.invokestatic 110, 3) := by decide +kernel
theorem dX9_chance_101 : decode cX9_chance 101 = .ok (.ifCond .eq 7, 3) := by decide +kernel
theorem dX9_chance_104 : decode cX9_chance 104 = .ok (.iconst 0, 1) := by decide +kernel
theorem dX9_chance_105 : decode cX9_chance 105 = .ok (.goto 32, 3) := by decide +kernel
theorem dX9_chance_108 : decode cX9_chance 108 = .ok (.aload_n 0, 1) := by decide +kernel
theorem dX9_chance_109 : decode cX9_chance 109 = .ok (.iload_n 1, 1) := by decide +kernel
theorem dX9_chance_110 : decode cX9_chance 110 = .ok (.aload_n 0, 1) := by decide +kernel
theorem dX9_chance_111 : decode cX9_chance 111 = .ok (.getfield 25, 3) := by decide +kernel
theorem dX9_chance_114 : decode cX9_chance 114 = .ok (.iconst 0, 1) := by decide +kernel
theorem dX9_chance_115 : decode cX9_chance 115 = .ok (.iaload, 1) := by decide +kernel
theorem dX9_chance_116 : decode cX9_chance 116 = .ok (.iload 9, 2) := by decide +kernel
theorem dX9_chance_118 : decode cX9_chance 118 = .ok (.if_icmp .le 15, 3) := by decide +kernel
theorem dX9_chance_121 : decode cX9_chance 121 = .ok (.aload_n 0, 1) := by decide +kernel
theorem dX9_chance_122 : decode cX9_chance 122 = .ok (.getfield 25, 3) := by decide +kernel
theorem dX9_chance_125 : decode cX9_chance 125 = .ok (.iconst 0, 1) := by decide +kernel
theorem dX9_chance_126 : decode cX9_chance 126 = .ok (.iaload, 1) := by decide +kernel
theorem dX9_chance_127 : decode cX9_chance 127 = .ok (.iload 9, 2) := by decide +kernel
theorem dX9_chance_129 : decode cX9_chance 129 = .ok (.isub, 1) := by decide +kernel
theorem dX9_chance_130 : decode cX9_chance 130 = .ok (.goto 4, 3) := by decide +kernel
theorem dX9_chance_133 : decode cX9_chance 133 = .ok (.iconst 0, 1) := by decide +kernel
theorem dX9_chance_134 : decode cX9_chance 134 = .ok (.invokevirtual 118, 3) := by decide +kernel
theorem dX9_chance_137 : decode cX9_chance 137 = .ok (.iadd, 1) := by decide +kernel
theorem dX9_chance_138 : decode cX9_chance 138 = .ok (.istore 7, 2) := by decide +kernel
theorem dX9_chance_140 : decode cX9_chance 140 = .ok (.iload 8, 2) := by decide +kernel
theorem dX9_chance_142 : decode cX9_chance 142 = .ok (.iload 6, 2) := by decide +kernel
theorem dX9_chance_144 : decode cX9_chance 144 = .ok (.iload 9, 2) := by decide +kernel
theorem dX9_chance_146 : decode cX9_chance 146 = .ok (.invokestatic 110, 3) := by decide +kernel
theorem dX9_chance_149 : decode cX9_chance 149 = .ok (.ifCond .eq 7, 3) := by decide +kernel
theorem dX9_chance_152 : decode cX9_chance 152 = .ok (.iload_n 3, 1) := by decide +kernel
theorem dX9_chance_153 : decode cX9_chance 153 = .ok (.goto 7, 3) := by decide +kernel
theorem dX9_chance_156 : decode cX9_chance 156 = .ok (.bipush 10, 2) := by decide +kernel
theorem dX9_chance_158 : decode cX9_chance 158 = .ok (.iload_n 3, 1) := by decide +kernel
theorem dX9_chance_159 : decode cX9_chance 159 = .ok (.isub, 1) := by decide +kernel
theorem dX9_chance_160 : decode cX9_chance 160 = .ok (.imul, 1) := by decide +kernel
theorem dX9_chance_161 : decode cX9_chance 161 = .ok (.istore 8, 2) := by decide +kernel
theorem dX9_chance_163 : decode cX9_chance 163 = .ok (.iinc 9 1, 3) := by decide +kernel
theorem dX9_chance_166 : decode cX9_chance 166 = .ok (.goto (-80), 3) := by decide +kernel
theorem dX9_chance_169 : decode cX9_chance 169 = .ok (.iload 5, 2) := by decide +kernel
theorem dX9_chance_171 : decode cX9_chance 171 = .ok (.iload 7, 2) := by decide +kernel
theorem dX9_chance_173 : decode cX9_chance 173 = .ok (.iconst 2, 1) := by decide +kernel
theorem dX9_chance_174 : decode cX9_chance 174 = .ok (.aload_n 0, 1) := by decide +kernel
theorem dX9_chance_175 : decode cX9_chance 175 = .ok (.getfield 13, 3) := by decide +kernel
theorem dX9_chance_178 : decode cX9_chance 178 = .ok (.iconst 3, 1) := by decide +kernel
theorem dX9_chance_179 : decode cX9_chance 179 = .ok (.iload_n 1, 1) := by decide +kernel
theorem dX9_chance_180 : decode cX9_chance 180 = .ok (.imul, 1) := by decide +kernel
theorem dX9_chance_181 : decode cX9_chance 181 = .ok (.iconst 1, 1) := by decide +kernel
theorem dX9_chance_182 : decode cX9_chance 182 = .ok (.iadd, 1) := by decide +kernel
theorem dX9_chance_183 : decode cX9_chance 183 = .ok (.iaload, 1) := by decide +kernel
theorem dX9_chance_184 : decode cX9_chance 184 = .ok (.imul, 1) := by decide +kernel
theorem dX9_chance_185 : decode cX9_chance 185 = .ok (.if_icmp .ge 8, 3) := by decide +kernel
theorem dX9_chance_188 : decode cX9_chance 188 = .ok (.iload 8, 2) := by decide +kernel
theorem dX9_chance_190 : decode cX9_chance 190 = .ok (.goto 4, 3) := by decide +kernel
theorem dX9_chance_193 : decode cX9_chance 193 = .ok (.iconst 0, 1) := by decide +kernel
theorem dX9_chance_194 : decode cX9_chance 194 = .ok (.iadd, 1) := by decide +kernel
theorem dX9_chance_195 : decode cX9_chance 195 = .ok (.istore 5, 2) := by decide +kernel
theorem dX9_chance_197 : decode cX9_chance 197 = .ok (.iinc 6 1, 3) := by decide +kernel
theorem dX9_chance_200 : decode cX9_chance 200 = .ok (.goto (-152), 3) := by decide +kernel
theorem dX9_chance_203 : decode cX9_chance 203 = .ok (.iload 5, 2) := by decide +kernel
theorem dX9_chance_205 : decode cX9_chance 205 = .ok (.bipush 10, 2) := by decide +kernel
theorem dX9_chance_207 : decode cX9_chance 207 = .ok (.iload_n 2, 1) := by decide +kernel
theorem dX9_chance_208 : decode cX9_chance 208 = .ok (.invokestatic 163, 3) := by decide +kernel
theorem dX9_chance_211 : decode cX9_chance 211 = .ok (.iload 4, 2) := by decide +kernel
theorem dX9_chance_213 : decode cX9_chance 213 = .ok (.invokestatic 191, 3) := by decide +kernel
theorem dX9_chance_216 : decode cX9_chance 216 = .ok (.ireturn, 1) := by decide +kernel
theorem dX9_seed_0 : decode cX9_seed 0 = .ok (.aload_n 0, 1) := by decide +kernel
theorem dX9_seed_1 : decode cX9_seed 1 = .ok (.iconst 0, 1) := by decide +kernel
theorem dX9_seed_2 : decode cX9_seed 2 = .ok (.putfield 53, 3) := by decide +kernel
theorem dX9_seed_5 : decode cX9_seed 5 = .ok (.aload_n 0, 1) := by decide +kernel
theorem dX9_seed_6 : decode cX9_seed 6 = .ok (.getfield 211, 3) := by decide +kernel
theorem dX9_seed_9 : decode cX9_seed 9 = .ok (.lstore_n 3, 1) := by decide +kernel
theorem dX9_seed_10 : decode cX9_seed 10 = .ok (.aload_n 0, 1) := by decide +kernel
theorem dX9_seed_11 : decode cX9_seed 11 = .ok (.lload_n 1, 1) := by decide +kernel
theorem dX9_seed_12 : decode cX9_seed 12 = .ok (.putfield 211, 3) := by decide +kernel
theorem dX9_seed_15 : decode cX9_seed 15 = .ok (.lload_n 3, 1) := by decide +kernel
theorem dX9_seed_16 : decode cX9_seed 16 = .ok (.lreturn, 1) := by decide +kernel
theorem dX9_talks_0 : decode cX9_talks 0 = .ok (.aload_n 0, 1) := by decide +kernel
theorem dX9_talks_1 : decode cX9_talks 1 = .ok (.iconst 0, 1) := by decide +kernel
theorem dX9_talks_2 : decode cX9_talks 2 = .ok (.putfield 53, 3) := by decide +kernel
theorem dX9_talks_5 : decode cX9_talks 5 = .ok (.iload_n 1, 1) := by decide +kernel
theorem dX9_talks_6 : decode cX9_talks 6 = .ok (.i2l, 1) := by decide +kernel
theorem dX9_talks_7 : decode cX9_talks 7 = .ok (.lconst 1, 1) := by decide +kernel
theorem dX9_talks_8 : decode cX9_talks 8 = .ok (.ldc2_w 215, 3) := by decide +kernel
theorem dX9_talks_11 : decode cX9_talks 11 = .ok (.invokestatic 60, 3) := by decide +kernel
theorem dX9_talks_14 : decode cX9_talks 14 = .ok (.ifCond .ne 6, 3) := by decide +kernel
theorem dX9_talks_17 : decode cX9_talks 17 = .ok (.bipush (-2), 2) := by decide +kernel
theorem dX9_talks_19 : decode cX9_talks 19 = .ok (.ireturn, 1) := by decide +kernel
theorem dX9_talks_20 : decode cX9_talks 20 = .ok (.aload_n 0, 1) := by decide +kernel
theorem dX9_talks_21 : decode cX9_talks 21 = .ok (.invokevirtual 151, 3) := by decide +kernel
theorem dX9_talks_24 : decode cX9_talks 24 = .ok (.iconst 0, 1) := by decide +kernel
theorem dX9_talks_25 : decode cX9_talks 25 = .ok (.istore_n 2, 1) := by decide +kernel
theorem dX9_talks_26 : decode cX9_talks 26 = .ok (.iconst 0, 1) := by decide +kernel
theorem dX9_talks_27 : decode cX9_talks 27 = .ok (.istore_n 3, 1) := by decide +kernel
theorem dX9_talks_28 : decode cX9_talks 28 = .ok (.iload_n 3, 1) := by decide +kernel
theorem dX9_talks_29 : decode cX9_talks 29 = .ok (.iload_n 1, 1) := by decide +kernel
theorem dX9_talks_30 : decode cX9_talks 30 = .ok (.if_icmp .ge 92, 3) := by decide +kernel
theorem dX9_talks_33 : decode cX9_talks 33 = .ok (.aload_n 0, 1) := by decide +kernel
theorem dX9_talks_34 : decode cX9_talks 34 = .ok (.aload_n 0, 1) := by decide +kernel
theorem dX9_talks_35 : decode cX9_talks 35 = .ok (.getfield 211, 3) := by decide +kernel
theorem dX9_talks_38 : decode cX9_talks 38 = .ok (.ldc2_w 217, 3) := by decide +kernel
theorem dX9_talks_41 : decode cX9_talks 41 = .ok (.lmul, 1) := by decide +kernel
theorem dX9_talks_42 : decode cX9_talks 42 = .ok (.ldc2_w 219, 3) := by decide +kernel
theorem dX9_talks_45 : decode cX9_talks 45 = .ok (.ladd, 1) := by decide +kernel
theorem dX9_talks_46 : decode cX9_talks 46 = .ok (.putfield 211, 3) := by decide +kernel
theorem dX9_talks_49 : decode cX9_talks 49 = .ok (.aload_n 0, 1) := by decide +kernel
theorem dX9_talks_50 : decode cX9_talks 50 = .ok (.getfield 211, 3) := by decide +kernel
theorem dX9_talks_53 : decode cX9_talks 53 = .ok (.bipush 33, 2) := by decide +kernel
theorem dX9_talks_55 : decode cX9_talks 55 = .ok (.lushr, 1) := by decide +kernel
theorem dX9_talks_56 : decode cX9_talks 56 = .ok (.ldc2_w 221, 3) := by decide +kernel
theorem dX9_talks_59 : decode cX9_talks 59 = .ok (.lrem, 1) := by decide +kernel
theorem dX9_talks_60 : decode cX9_talks 60 = .ok (.l2i, 1) := by decide +kernel
theorem dX9_talks_61 : decode cX9_talks 61 = .ok (.istore 4, 2) := by decide +kernel
theorem dX9_talks_63 : decode cX9_talks 63 = .ok (.iload 4, 2) := by decide +kernel
theorem dX9_talks_65 : decode cX9_talks 65 = .ok (.iconst 5, 1) := by decide +kernel
theorem dX9_talks_66 : decode cX9_talks 66 = .ok (.if_icmp .le 14, 3) := by decide +kernel
theorem dX9_talks_69 : decode cX9_talks 69 = .ok (.aload_n 0, 1) := by decide +kernel
theorem dX9_talks_70 : decode cX9_talks 70 = .ok (.aload_n 0, 1) := by decide +kernel
theorem dX9_talks_71 : decode cX9_talks 71 = .ok (.getfield 28, 3) := by decide +kernel
theorem dX9_talks_74 : decode cX9_talks 74 = .ok (.invokevirtual 144, 3) := by decide +kernel
theorem dX9_talks_77 : decode cX9_talks 77 = .ok (.goto 39, 3) := by decide +kernel
theorem dX9_talks_80 : decode cX9_talks 80 = .ok (.iload 4, 2) := by decide +kernel
theorem dX9_talks_82 : decode cX9_talks 82 = .ok (.iconst 5, 1) := by decide +kernel
theorem dX9_talks_83 : decode cX9_talks 83 = .ok (.if_icmp .ne 13, 3) := by decide +kernel
theorem dX9_talks_86 : decode cX9_talks 86 = .ok (.aload_n 0, 1) := by decide +kernel
theorem dX9_talks_87 : decode cX9_talks 87 = .ok (.bipush 6, 2) := by decide +kernel
theorem dX9_talks_89 : decode cX9_talks 89 = .ok (.invokevirtual 179, 3) := by decide +kernel
theorem dX9_talks_92 : decode cX9_talks 92 = .ok (.pop, 1) := by decide +kernel
theorem dX9_talks_93 : decode cX9_talks 93 = .ok (.goto 23, 3) := by decide +kernel
theorem dX9_talks_96 : decode cX9_talks 96 = .ok (.aload_n 0, 1) := by decide +kernel
theorem dX9_talks_97 : decode cX9_talks 97 = .ok (.iload 4, 2) := by decide +kernel
theorem dX9_talks_99 : decode cX9_talks 99 = .ok (.iconst 1, 1) := by decide +kernel
theorem dX9_talks_100 : decode cX9_talks 100 = .ok (.iadd, 1) := by decide +kernel
theorem dX9_talks_101 : decode cX9_talks 101 = .ok (.invokevirtual 179, 3) := by decide +kernel
theorem dX9_talks_104 : decode cX9_talks 104 = .ok (.ifCond .eq 12, 3) := by decide +kernel
theorem dX9_talks_107 : decode cX9_talks 107 = .ok (.iload_n 2, 1) := by decide +kernel
theorem dX9_talks_108 : decode cX9_talks 108 = .ok (.aload_n 0, 1) := by decide +kernel
theorem dX9_talks_109 : decode cX9_talks 109 = .ok (.iload 4, 2) := by decide +kernel
theorem dX9_talks_111 : decode cX9_talks 111 = .ok (.invokevirtual 137, 3) := by decide +kernel
theorem dX9_talks_114 : decode cX9_talks 114 = .ok (.iadd, 1) := by decide +kernel
theorem dX9_talks_115 : decode cX9_talks 115 = .ok (.istore_n 2, 1) := by decide +kernel
theorem dX9_talks_116 : decode cX9_talks 116 = .ok (.iinc 3 1, 3) := by decide +kernel
theorem dX9_talks_119 : decode cX9_talks 119 = .ok (.goto (-91), 3) := by decide +kernel
theorem dX9_talks_122 : decode cX9_talks 122 = .ok (.iload_n 2, 1) := by decide +kernel
theorem dX9_talks_123 : decode cX9_talks 123 = .ok (.ireturn, 1) := by decide +kernel
theorem dX9_keep_0 : decode cX9_keep 0 = .ok (.aload_n 0, 1) := by decide +kernel
theorem dX9_keep_1 : decode cX9_keep 1 = .ok (.iconst 0, 1) := by decide +kernel
theorem dX9_keep_2 : decode cX9_keep 2 = .ok (.putfield 53, 3) := by decide +kernel
theorem dX9_keep_5 : decode cX9_keep 5 = .ok (.iload_n 1, 1) := by decide +kernel
theorem dX9_keep_6 : decode cX9_keep 6 = .ok (.i2l, 1) := by decide +kernel
theorem dX9_keep_7 : decode cX9_keep 7 = .ok (.lconst 0, 1) := by decide +kernel
theorem dX9_keep_8 : decode cX9_keep 8 = .ok (.lconst 1, 1) := by decide +kernel
theorem dX9_keep_9 : decode cX9_keep 9 = .ok (.invokestatic 60, 3) := by decide +kernel
theorem dX9_keep_12 : decode cX9_keep 12 = .ok (.ifCond .ne 5, 3) := by decide +kernel
theorem dX9_keep_15 : decode cX9_keep 15 = .ok (.iconst (-1), 1) := by decide +kernel
theorem dX9_keep_16 : decode cX9_keep 16 = .ok (.ireturn, 1) := by decide +kernel
theorem dX9_keep_17 : decode cX9_keep 17 = .ok (.aload_n 0, 1) := by decide +kernel
theorem dX9_keep_18 : decode cX9_keep 18 = .ok (.getfield 37, 3) := by decide +kernel
theorem dX9_keep_21 : decode cX9_keep 21 = .ok (.iload_n 1, 1) := by decide +kernel
theorem dX9_keep_22 : decode cX9_keep 22 = .ok (.iconst 1, 1) := by decide +kernel
theorem dX9_keep_23 : decode cX9_keep 23 = .ok (.bastore, 1) := by decide +kernel
theorem dX9_keep_24 : decode cX9_keep 24 = .ok (.iconst 0, 1) := by decide +kernel
theorem dX9_keep_25 : decode cX9_keep 25 = .ok (.istore_n 2, 1) := by decide +kernel
theorem dX9_keep_26 : decode cX9_keep 26 = .ok (.iload_n 2, 1) := by decide +kernel
theorem dX9_keep_27 : decode cX9_keep 27 = .ok (.bipush 10, 2) := by decide +kernel
theorem dX9_keep_29 : decode cX9_keep 29 = .ok (.if_icmp .ge 26, 3) := by decide +kernel
theorem dX9_keep_32 : decode cX9_keep 32 = .ok (.aload_n 0, 1) := by decide +kernel
theorem dX9_keep_33 : decode cX9_keep 33 = .ok (.getfield 34, 3) := by decide +kernel
theorem dX9_keep_36 : decode cX9_keep 36 = .ok (.bipush 10, 2) := by decide +kernel
theorem dX9_keep_38 : decode cX9_keep 38 = .ok (.iload_n 1, 1) := by decide +kernel
theorem dX9_keep_39 : decode cX9_keep 39 = .ok (.imul, 1) := by decide +kernel
theorem dX9_keep_40 : decode cX9_keep 40 = .ok (.iload_n 2, 1) := by decide +kernel
theorem dX9_keep_41 : decode cX9_keep 41 = .ok (.iadd, 1) := by decide +kernel
theorem dX9_keep_42 : decode cX9_keep 42 = .ok (.aload_n 0, 1) := by decide +kernel
theorem dX9_keep_43 : decode cX9_keep 43 = .ok (.getfield 25, 3) := by decide +kernel
theorem dX9_keep_46 : decode cX9_keep 46 = .ok (.iload_n 2, 1) := by decide +kernel
theorem dX9_keep_47 : decode cX9_keep 47 = .ok (.iaload, 1) := by decide +kernel
theorem dX9_keep_48 : decode cX9_keep 48 = .ok (.iastore, 1) := by decide +kernel
theorem dX9_keep_49 : decode cX9_keep 49 = .ok (.iinc 2 1, 3) := by decide +kernel
theorem dX9_keep_52 : decode cX9_keep 52 = .ok (.goto (-26), 3) := by decide +kernel
theorem dX9_keep_55 : decode cX9_keep 55 = .ok (.aload_n 0, 1) := by decide +kernel
theorem dX9_keep_56 : decode cX9_keep 56 = .ok (.getfield 25, 3) := by decide +kernel
theorem dX9_keep_59 : decode cX9_keep 59 = .ok (.bipush 9, 2) := by decide +kernel
theorem dX9_keep_61 : decode cX9_keep 61 = .ok (.iaload, 1) := by decide +kernel
theorem dX9_keep_62 : decode cX9_keep 62 = .ok (.ireturn, 1) := by decide +kernel
theorem dX9_again_0 : decode cX9_again 0 = .ok (.aload_n 0, 1) := by decide +kernel
theorem dX9_again_1 : decode cX9_again 1 = .ok (.iconst 0, 1) := by decide +kernel
theorem dX9_again_2 : decode cX9_again 2 = .ok (.putfield 53, 3) := by decide +kernel
theorem dX9_again_5 : decode cX9_again 5 = .ok (.iload_n 1, 1) := by decide +kernel
theorem dX9_again_6 : decode cX9_again 6 = .ok (.i2l, 1) := by decide +kernel
theorem dX9_again_7 : decode cX9_again 7 = .ok (.lconst 0, 1) := by decide +kernel
theorem dX9_again_8 : decode cX9_again 8 = .ok (.lconst 1, 1) := by decide +kernel
theorem dX9_again_9 : decode cX9_again 9 = .ok (.invokestatic 60, 3) := by decide +kernel
theorem dX9_again_12 : decode cX9_again 12 = .ok (.ifCond .ne 5, 3) := by decide +kernel
theorem dX9_again_15 : decode cX9_again 15 = .ok (.iconst (-1), 1) := by decide +kernel
theorem dX9_again_16 : decode cX9_again 16 = .ok (.ireturn, 1) := by decide +kernel
theorem dX9_again_17 : decode cX9_again 17 = .ok (.aload_n 0, 1) := by decide +kernel
theorem dX9_again_18 : decode cX9_again 18 = .ok (.getfield 37, 3) := by decide +kernel
theorem dX9_again_21 : decode cX9_again 21 = .ok (.iload_n 1, 1) := by decide +kernel
theorem dX9_again_22 : decode cX9_again 22 = .ok (.baload, 1) := by decide +kernel
theorem dX9_again_23 : decode cX9_again 23 = .ok (.ifCond .ne 6, 3) := by decide +kernel
theorem dX9_again_26 : decode cX9_again 26 = .ok (.bipush (-3), 2) := by decide +kernel
theorem dX9_again_28 : decode cX9_again 28 = .ok (.ireturn, 1) := by decide +kernel
theorem dX9_again_29 : decode cX9_again 29 = .ok (.iconst 0, 1) := by decide +kernel
theorem dX9_again_30 : decode cX9_again 30 = .ok (.istore_n 2, 1) := by decide +kernel
theorem dX9_again_31 : decode cX9_again 31 = .ok (.iload_n 2, 1) := by decide +kernel
theorem dX9_again_32 : decode cX9_again 32 = .ok (.bipush 10, 2) := by decide +kernel
theorem dX9_again_34 : decode cX9_again 34 = .ok (.if_icmp .ge 26, 3) := by decide +kernel
theorem dX9_again_37 : decode cX9_again 37 = .ok (.aload_n 0, 1) := by decide +kernel
theorem dX9_again_38 : decode cX9_again 38 = .ok (.getfield 25, 3) := by decide +kernel
theorem dX9_again_41 : decode cX9_again 41 = .ok (.iload_n 2, 1) := by decide +kernel
theorem dX9_again_42 : decode cX9_again 42 = .ok (.aload_n 0, 1) := by decide +kernel
theorem dX9_again_43 : decode cX9_again 43 = .ok (.getfield 34, 3) := by decide +kernel
theorem dX9_again_46 : decode cX9_again 46 = .ok (.bipush 10, 2) := by decide +kernel
theorem dX9_again_48 : decode cX9_again 48 = .ok (.iload_n 1, 1) := by decide +kernel
theorem dX9_again_49 : decode cX9_again 49 = .ok (.imul, 1) := by decide +kernel
theorem dX9_again_50 : decode cX9_again 50 = .ok (.iload_n 2, 1) := by decide +kernel
theorem dX9_again_51 : decode cX9_again 51 = .ok (.iadd, 1) := by decide +kernel
theorem dX9_again_52 : decode cX9_again 52 = .ok (.iaload, 1) := by decide +kernel
theorem dX9_again_53 : decode cX9_again 53 = .ok (.iastore, 1) := by decide +kernel
theorem dX9_again_54 : decode cX9_again 54 = .ok (.iinc 2 1, 3) := by decide +kernel
theorem dX9_again_57 : decode cX9_again 57 = .ok (.goto (-26), 3) := by decide +kernel
theorem dX9_again_60 : decode cX9_again 60 = .ok (.aload_n 0, 1) := by decide +kernel
theorem dX9_again_61 : decode cX9_again 61 = .ok (.iconst 0, 1) := by decide +kernel
theorem dX9_again_62 : decode cX9_again 62 = .ok (.putfield 103, 3) := by decide +kernel
theorem dX9_again_65 : decode cX9_again 65 = .ok (.aload_n 0, 1) := by decide +kernel
theorem dX9_again_66 : decode cX9_again 66 = .ok (.getfield 25, 3) := by decide +kernel
theorem dX9_again_69 : decode cX9_again 69 = .ok (.bipush 9, 2) := by decide +kernel
theorem dX9_again_71 : decode cX9_again 71 = .ok (.iaload, 1) := by decide +kernel
theorem dX9_again_72 : decode cX9_again 72 = .ok (.ireturn, 1) := by decide +kernel
theorem dJ6_bitCount_0f7a4_0 : decode cJ6_bitCount_0f7a4 0 = .ok (.iload_n 0, 1) := by decide +kernel
theorem dJ6_bitCount_0f7a4_1 : decode cJ6_bitCount_0f7a4 1 = .ok (.iload_n 0, 1) := by decide +kernel
theorem dJ6_bitCount_0f7a4_2 : decode cJ6_bitCount_0f7a4 2 = .ok (.iconst 1, 1) := by decide +kernel
theorem dJ6_bitCount_0f7a4_3 : decode cJ6_bitCount_0f7a4 3 = .ok (.iushr, 1) := by decide +kernel
theorem dJ6_bitCount_0f7a4_4 : decode cJ6_bitCount_0f7a4 4 = .ok (.ldc_w 265, 3) := by decide +kernel
theorem dJ6_bitCount_0f7a4_7 : decode cJ6_bitCount_0f7a4 7 = .ok (.iand, 1) := by decide +kernel
theorem dJ6_bitCount_0f7a4_8 : decode cJ6_bitCount_0f7a4 8 = .ok (.isub, 1) := by decide +kernel
theorem dJ6_bitCount_0f7a4_9 : decode cJ6_bitCount_0f7a4 9 = .ok (.istore_n 0, 1) := by decide +kernel
theorem dJ6_bitCount_0f7a4_10 : decode cJ6_bitCount_0f7a4 10 = .ok (.iload_n 0, 1) := by decide +kernel
theorem dJ6_bitCount_0f7a4_11 : decode cJ6_bitCount_0f7a4 11 = .ok (.ldc_w 266, 3) := by decide +kernel
theorem dJ6_bitCount_0f7a4_14 : decode cJ6_bitCount_0f7a4 14 = .ok (.iand, 1) := by decide +kernel
theorem dJ6_bitCount_0f7a4_15 : decode cJ6_bitCount_0f7a4 15 = .ok (.iload_n 0, 1) := by decide +kernel
theorem dJ6_bitCount_0f7a4_16 : decode cJ6_bitCount_0f7a4 16 = .ok (.iconst 2, 1) := by decide +kernel
theorem dJ6_bitCount_0f7a4_17 : decode cJ6_bitCount_0f7a4 17 = .ok (.iushr, 1) := by decide +kernel
theorem dJ6_bitCount_0f7a4_18 : decode cJ6_bitCount_0f7a4 18 = .ok (.ldc_w 266, 3) := by decide +kernel
theorem dJ6_bitCount_0f7a4_21 : decode cJ6_bitCount_0f7a4 21 = .ok (.iand, 1) := by decide +kernel
theorem dJ6_bitCount_0f7a4_22 : decode cJ6_bitCount_0f7a4 22 = .ok (.iadd, 1) := by decide +kernel
theorem dJ6_bitCount_0f7a4_23 : decode cJ6_bitCount_0f7a4 23 = .ok (.istore_n 0, 1) := by decide +kernel
theorem dJ6_bitCount_0f7a4_24 : decode cJ6_bitCount_0f7a4 24 = .ok (.iload_n 0, 1) := by decide +kernel
theorem dJ6_bitCount_0f7a4_25 : decode cJ6_bitCount_0f7a4 25 = .ok (.iload_n 0, 1) := by decide +kernel
theorem dJ6_bitCount_0f7a4_26 : decode cJ6_bitCount_0f7a4 26 = .ok (.iconst 4, 1) := by decide +kernel
theorem dJ6_bitCount_0f7a4_27 : decode cJ6_bitCount_0f7a4 27 = .ok (.iushr, 1) := by decide +kernel
theorem dJ6_bitCount_0f7a4_28 : decode cJ6_bitCount_0f7a4 28 = .ok (.iadd, 1) := by decide +kernel
theorem dJ6_bitCount_0f7a4_29 : decode cJ6_bitCount_0f7a4 29 = .ok (.ldc_w 267, 3) := by decide +kernel
theorem dJ6_bitCount_0f7a4_32 : decode cJ6_bitCount_0f7a4 32 = .ok (.iand, 1) := by decide +kernel
theorem dJ6_bitCount_0f7a4_33 : decode cJ6_bitCount_0f7a4 33 = .ok (.istore_n 0, 1) := by decide +kernel
theorem dJ6_bitCount_0f7a4_34 : decode cJ6_bitCount_0f7a4 34 = .ok (.iload_n 0, 1) := by decide +kernel
theorem dJ6_bitCount_0f7a4_35 : decode cJ6_bitCount_0f7a4 35 = .ok (.iload_n 0, 1) := by decide +kernel
theorem dJ6_bitCount_0f7a4_36 : decode cJ6_bitCount_0f7a4 36 = .ok (.bipush 8, 2) := by decide +kernel
theorem dJ6_bitCount_0f7a4_38 : decode cJ6_bitCount_0f7a4 38 = .ok (.iushr, 1) := by decide +kernel
theorem dJ6_bitCount_0f7a4_39 : decode cJ6_bitCount_0f7a4 39 = .ok (.iadd, 1) := by decide +kernel
theorem dJ6_bitCount_0f7a4_40 : decode cJ6_bitCount_0f7a4 40 = .ok (.istore_n 0, 1) := by decide +kernel
theorem dJ6_bitCount_0f7a4_41 : decode cJ6_bitCount_0f7a4 41 = .ok (.iload_n 0, 1) := by decide +kernel
theorem dJ6_bitCount_0f7a4_42 : decode cJ6_bitCount_0f7a4 42 = .ok (.iload_n 0, 1) := by decide +kernel
theorem dJ6_bitCount_0f7a4_43 : decode cJ6_bitCount_0f7a4 43 = .ok (.bipush 16, 2) := by decide +kernel
theorem dJ6_bitCount_0f7a4_45 : decode cJ6_bitCount_0f7a4 45 = .ok (.iushr, 1) := by decide +kernel
theorem dJ6_bitCount_0f7a4_46 : decode cJ6_bitCount_0f7a4 46 = .ok (.iadd, 1) := by decide +kernel
theorem dJ6_bitCount_0f7a4_47 : decode cJ6_bitCount_0f7a4 47 = .ok (.istore_n 0, 1) := by decide +kernel
theorem dJ6_bitCount_0f7a4_48 : decode cJ6_bitCount_0f7a4 48 = .ok (.iload_n 0, 1) := by decide +kernel
theorem dJ6_bitCount_0f7a4_49 : decode cJ6_bitCount_0f7a4 49 = .ok (.bipush 63, 2) := by decide +kernel
theorem dJ6_bitCount_0f7a4_51 : decode cJ6_bitCount_0f7a4 51 = .ok (.iand, 1) := by decide +kernel
theorem dJ6_bitCount_0f7a4_52 : decode cJ6_bitCount_0f7a4 52 = .ok (.ireturn, 1) := by decide +kernel
theorem dJ9_max_7cf53_0 : decode cJ9_max_7cf53 0 = .ok (.iload_n 0, 1) := by decide +kernel
theorem dJ9_max_7cf53_1 : decode cJ9_max_7cf53 1 = .ok (.iload_n 1, 1) := by decide +kernel
theorem dJ9_max_7cf53_2 : decode cJ9_max_7cf53 2 = .ok (.if_icmp .lt 7, 3) := by decide +kernel
theorem dJ9_max_7cf53_5 : decode cJ9_max_7cf53 5 = .ok (.iload_n 0, 1) := by decide +kernel
theorem dJ9_max_7cf53_6 : decode cJ9_max_7cf53 6 = .ok (.goto 4, 3) := by decide +kernel
theorem dJ9_max_7cf53_9 : decode cJ9_max_7cf53 9 = .ok (.iload_n 1, 1) := by decide +kernel
theorem dJ9_max_7cf53_10 : decode cJ9_max_7cf53 10 = .ok (.ireturn, 1) := by decide +kernel
theorem dJ9_min_7cf53_0 : decode cJ9_min_7cf53 0 = .ok (.iload_n 0, 1) := by decide +kernel
theorem dJ9_min_7cf53_1 : decode cJ9_min_7cf53 1 = .ok (.iload_n 1, 1) := by decide +kernel
theorem dJ9_min_7cf53_2 : decode cJ9_min_7cf53 2 = .ok (.if_icmp .gt 7, 3) := by decide +kernel
theorem dJ9_min_7cf53_5 : decode cJ9_min_7cf53 5 = .ok (.iload_n 0, 1) := by decide +kernel
theorem dJ9_min_7cf53_6 : decode cJ9_min_7cf53 6 = .ok (.goto 4, 3) := by decide +kernel
theorem dJ9_min_7cf53_9 : decode cJ9_min_7cf53 9 = .ok (.iload_n 1, 1) := by decide +kernel
theorem dJ9_min_7cf53_10 : decode cJ9_min_7cf53 10 = .ok (.ireturn, 1) := by decide +kernel
theorem dL_law_0 : decode cL_law 0 = .ok (.new 7, 3) := by decide +kernel
theorem dL_law_3 : decode cL_law 3 = .ok (.dup, 1) := by decide +kernel
theorem dL_law_4 : decode cL_law 4 = .ok (.invokespecial 9, 3) := by decide +kernel
theorem dL_law_7 : decode cL_law 7 = .ok (.astore_n 1, 1) := by decide +kernel
theorem dL_law_8 : decode cL_law 8 = .ok (.new 10, 3) := by decide +kernel
theorem dL_law_11 : decode cL_law 11 = .ok (.dup, 1) := by decide +kernel
theorem dL_law_12 : decode cL_law 12 = .ok (.invokespecial 12, 3) := by decide +kernel
theorem dL_law_15 : decode cL_law 15 = .ok (.astore_n 2, 1) := by decide +kernel
theorem dL_law_16 : decode cL_law 16 = .ok (.iconst 0, 1) := by decide +kernel
theorem dL_law_17 : decode cL_law 17 = .ok (.istore_n 3, 1) := by decide +kernel
theorem dL_law_18 : decode cL_law 18 = .ok (.iload_n 3, 1) := by decide +kernel
theorem dL_law_19 : decode cL_law 19 = .ok (.aload_n 0, 1) := by decide +kernel
theorem dL_law_20 : decode cL_law 20 = .ok (.arraylength, 1) := by decide +kernel
theorem dL_law_21 : decode cL_law 21 = .ok (.iconst 5, 1) := by decide +kernel
theorem dL_law_22 : decode cL_law 22 = .ok (.isub, 1) := by decide +kernel
theorem dL_law_23 : decode cL_law 23 = .ok (.if_icmp .gt 916, 3) := by decide +kernel
theorem dL_law_26 : decode cL_law 26 = .ok (.aload_n 0, 1) := by decide +kernel
theorem dL_law_27 : decode cL_law 27 = .ok (.iload_n 3, 1) := by decide +kernel
theorem dL_law_28 : decode cL_law 28 = .ok (.iaload, 1) := by decide +kernel
theorem dL_law_29 : decode cL_law 29 = .ok (.bipush 31, 2) := by decide +kernel
theorem dL_law_31 : decode cL_law 31 = .ok (.iand, 1) := by decide +kernel
theorem dL_law_32 : decode cL_law 32 = .ok (.tableswitch 901 0 27 #[128, 151, 164, 177, 190, 213, 246, 279, 292, 315, 328, 351, 364, 377, 400, 449, 482, 505, 538, 587, 630, 643, 666, 709, 778, 832, 855, 878], 128) := by decide +kernel
theorem dL_law_160 : decode cL_law 160 = .ok (.aload_n 1, 1) := by decide +kernel
theorem dL_law_161 : decode cL_law 161 = .ok (.aload_n 0, 1) := by decide +kernel
theorem dL_law_162 : decode cL_law 162 = .ok (.iload_n 3, 1) := by decide +kernel
theorem dL_law_163 : decode cL_law 163 = .ok (.iconst 1, 1) := by decide +kernel
theorem dL_law_164 : decode cL_law 164 = .ok (.iadd, 1) := by decide +kernel
theorem dL_law_165 : decode cL_law 165 = .ok (.iaload, 1) := by decide +kernel
theorem dL_law_166 : decode cL_law 166 = .ok (.invokevirtual 13, 3) := by decide +kernel
theorem dL_law_169 : decode cL_law 169 = .ok (.aload_n 2, 1) := by decide +kernel
theorem dL_law_170 : decode cL_law 170 = .ok (.aload_n 0, 1) := by decide +kernel
theorem dL_law_171 : decode cL_law 171 = .ok (.iload_n 3, 1) := by decide +kernel
theorem dL_law_172 : decode cL_law 172 = .ok (.iconst 1, 1) := by decide +kernel
theorem dL_law_173 : decode cL_law 173 = .ok (.iadd, 1) := by decide +kernel
theorem dL_law_174 : decode cL_law 174 = .ok (.iaload, 1) := by decide +kernel
theorem dL_law_175 : decode cL_law 175 = .ok (.invokevirtual 17, 3) := by decide +kernel
theorem dL_law_178 : decode cL_law 178 = .ok (.if_icmp .eq 755, 3) := by decide +kernel
theorem dL_law_181 : decode cL_law 181 = .ok (.iconst 0, 1) := by decide +kernel
theorem dL_law_182 : decode cL_law 182 = .ok (.ireturn, 1) := by decide +kernel
theorem dL_law_183 : decode cL_law 183 = .ok (.aload_n 1, 1) := by decide +kernel
theorem dL_law_184 : decode cL_law 184 = .ok (.invokevirtual 18, 3) := by decide +kernel
theorem dL_law_187 : decode cL_law 187 = .ok (.aload_n 2, 1) := by decide +kernel
theorem dL_law_188 : decode cL_law 188 = .ok (.invokevirtual 22, 3) := by decide +kernel
theorem dL_law_191 : decode cL_law 191 = .ok (.if_icmp .eq 742, 3) := by decide +kernel
theorem dL_law_194 : decode cL_law 194 = .ok (.iconst 0, 1) := by decide +kernel
theorem dL_law_195 : decode cL_law 195 = .ok (.ireturn, 1) := by decide +kernel
theorem dL_law_196 : decode cL_law 196 = .ok (.aload_n 1, 1) := by decide +kernel
theorem dL_law_197 : decode cL_law 197 = .ok (.invokevirtual 23, 3) := by decide +kernel
theorem dL_law_200 : decode cL_law 200 = .ok (.aload_n 2, 1) := by decide +kernel
theorem dL_law_201 : decode cL_law 201 = .ok (.invokevirtual 26, 3) := by decide +kernel
theorem dL_law_204 : decode cL_law 204 = .ok (.if_icmp .eq 729, 3) := by decide +kernel
theorem dL_law_207 : decode cL_law 207 = .ok (.iconst 0, 1) := by decide +kernel
theorem dL_law_208 : decode cL_law 208 = .ok (.ireturn, 1) := by decide +kernel
theorem dL_law_209 : decode cL_law 209 = .ok (.aload_n 1, 1) := by decide +kernel
theorem dL_law_210 : decode cL_law 210 = .ok (.invokevirtual 27, 3) := by decide +kernel
theorem dL_law_213 : decode cL_law 213 = .ok (.aload_n 2, 1) := by decide +kernel
theorem dL_law_214 : decode cL_law 214 = .ok (.invokevirtual 30, 3) := by decide +kernel
theorem dL_law_217 : decode cL_law 217 = .ok (.if_icmp .eq 716, 3) := by decide +kernel
theorem dL_law_220 : decode cL_law 220 = .ok (.iconst 0, 1) := by decide +kernel
theorem dL_law_221 : decode cL_law 221 = .ok (.ireturn, 1) := by decide +kernel
theorem dL_law_222 : decode cL_law 222 = .ok (.aload_n 1, 1) := by decide +kernel
theorem dL_law_223 : decode cL_law 223 = .ok (.aload_n 0, 1) := by decide +kernel
theorem dL_law_224 : decode cL_law 224 = .ok (.iload_n 3, 1) := by decide +kernel
theorem dL_law_225 : decode cL_law 225 = .ok (.iconst 1, 1) := by decide +kernel
theorem dL_law_226 : decode cL_law 226 = .ok (.iadd, 1) := by decide +kernel
theorem dL_law_227 : decode cL_law 227 = .ok (.iaload, 1) := by decide +kernel
theorem dL_law_228 : decode cL_law 228 = .ok (.invokevirtual 31, 3) := by decide +kernel
theorem dL_law_231 : decode cL_law 231 = .ok (.aload_n 2, 1) := by decide +kernel
theorem dL_law_232 : decode cL_law 232 = .ok (.aload_n 0, 1) := by decide +kernel
theorem dL_law_233 : decode cL_law 233 = .ok (.iload_n 3, 1) := by decide +kernel
theorem dL_law_234 : decode cL_law 234 = .ok (.iconst 1, 1) := by decide +kernel
theorem dL_law_235 : decode cL_law 235 = .ok (.iadd, 1) := by decide +kernel
theorem dL_law_236 : decode cL_law 236 = .ok (.iaload, 1) := by decide +kernel
theorem dL_law_237 : decode cL_law 237 = .ok (.invokevirtual 34, 3) := by decide +kernel
theorem dL_law_240 : decode cL_law 240 = .ok (.if_icmp .eq 693, 3) := by decide +kernel
theorem dL_law_243 : decode cL_law 243 = .ok (.iconst 0, 1) := by decide +kernel
theorem dL_law_244 : decode cL_law 244 = .ok (.ireturn, 1) := by decide +kernel
theorem dL_law_245 : decode cL_law 245 = .ok (.aload_n 1, 1) := by decide +kernel
theorem dL_law_246 : decode cL_law 246 = .ok (.aload_n 0, 1) := by decide +kernel
theorem dL_law_247 : decode cL_law 247 = .ok (.iload_n 3, 1) := by decide +kernel
theorem dL_law_248 : decode cL_law 248 = .ok (.iconst 1, 1) := by decide +kernel
theorem dL_law_249 : decode cL_law 249 = .ok (.iadd, 1) := by decide +kernel
theorem dL_law_250 : decode cL_law 250 = .ok (.iaload, 1) := by decide +kernel
theorem dL_law_251 : decode cL_law 251 = .ok (.aload_n 0, 1) := by decide +kernel
theorem dL_law_252 : decode cL_law 252 = .ok (.iload_n 3, 1) := by decide +kernel
theorem dL_law_253 : decode cL_law 253 = .ok (.iconst 2, 1) := by decide +kernel
theorem dL_law_254 : decode cL_law 254 = .ok (.iadd, 1) := by decide +kernel
theorem dL_law_255 : decode cL_law 255 = .ok (.iaload, 1) := by decide +kernel
theorem dL_law_256 : decode cL_law 256 = .ok (.invokevirtual 35, 3) := by decide +kernel
theorem dL_law_259 : decode cL_law 259 = .ok (.aload_n 2, 1) := by decide +kernel
theorem dL_law_260 : decode cL_law 260 = .ok (.aload_n 0, 1) := by decide +kernel
theorem dL_law_261 : decode cL_law 261 = .ok (.iload_n 3, 1) := by decide +kernel
theorem dL_law_262 : decode cL_law 262 = .ok (.iconst 1, 1) := by decide +kernel
theorem dL_law_263 : decode cL_law 263 = .ok (.iadd, 1) := by decide +kernel
theorem dL_law_264 : decode cL_law 264 = .ok (.iaload, 1) := by decide +kernel
theorem dL_law_265 : decode cL_law 265 = .ok (.aload_n 0, 1) := by decide +kernel
theorem dL_law_266 : decode cL_law 266 = .ok (.iload_n 3, 1) := by decide +kernel
theorem dL_law_267 : decode cL_law 267 = .ok (.iconst 2, 1) := by decide +kernel
theorem dL_law_268 : decode cL_law 268 = .ok (.iadd, 1) := by decide +kernel
theorem dL_law_269 : decode cL_law 269 = .ok (.iaload, 1) := by decide +kernel
theorem dL_law_270 : decode cL_law 270 = .ok (.invokevirtual 39, 3) := by decide +kernel
theorem dL_law_273 : decode cL_law 273 = .ok (.if_icmp .eq 660, 3) := by decide +kernel
theorem dL_law_276 : decode cL_law 276 = .ok (.iconst 0, 1) := by decide +kernel
theorem dL_law_277 : decode cL_law 277 = .ok (.ireturn, 1) := by decide +kernel
theorem dL_law_278 : decode cL_law 278 = .ok (.aload_n 1, 1) := by decide +kernel
theorem dL_law_279 : decode cL_law 279 = .ok (.aload_n 0, 1) := by decide +kernel
theorem dL_law_280 : decode cL_law 280 = .ok (.iload_n 3, 1) := by decide +kernel
theorem dL_law_281 : decode cL_law 281 = .ok (.iconst 1, 1) := by decide +kernel
theorem dL_law_282 : decode cL_law 282 = .ok (.iadd, 1) := by decide +kernel
theorem dL_law_283 : decode cL_law 283 = .ok (.iaload, 1) := by decide +kernel
theorem dL_law_284 : decode cL_law 284 = .ok (.aload_n 0, 1) := by decide +kernel
theorem dL_law_285 : decode cL_law 285 = .ok (.iload_n 3, 1) := by decide +kernel
theorem dL_law_286 : decode cL_law 286 = .ok (.iconst 2, 1) := by decide +kernel
theorem dL_law_287 : decode cL_law 287 = .ok (.iadd, 1) := by decide +kernel
theorem dL_law_288 : decode cL_law 288 = .ok (.iaload, 1) := by decide +kernel
theorem dL_law_289 : decode cL_law 289 = .ok (.invokevirtual 40, 3) := by decide +kernel
theorem dL_law_292 : decode cL_law 292 = .ok (.aload_n 2, 1) := by decide +kernel
theorem dL_law_293 : decode cL_law 293 = .ok (.aload_n 0, 1) := by decide +kernel
theorem dL_law_294 : decode cL_law 294 = .ok (.iload_n 3, 1) := by decide +kernel
theorem dL_law_295 : decode cL_law 295 = .ok (.iconst 1, 1) := by decide +kernel
theorem dL_law_296 : decode cL_law 296 = .ok (.iadd, 1) := by decide +kernel
theorem dL_law_297 : decode cL_law 297 = .ok (.iaload, 1) := by decide +kernel
theorem dL_law_298 : decode cL_law 298 = .ok (.aload_n 0, 1) := by decide +kernel
theorem dL_law_299 : decode cL_law 299 = .ok (.iload_n 3, 1) := by decide +kernel
theorem dL_law_300 : decode cL_law 300 = .ok (.iconst 2, 1) := by decide +kernel
theorem dL_law_301 : decode cL_law 301 = .ok (.iadd, 1) := by decide +kernel
theorem dL_law_302 : decode cL_law 302 = .ok (.iaload, 1) := by decide +kernel
theorem dL_law_303 : decode cL_law 303 = .ok (.invokevirtual 43, 3) := by decide +kernel
theorem dL_law_306 : decode cL_law 306 = .ok (.if_icmp .eq 627, 3) := by decide +kernel
theorem dL_law_309 : decode cL_law 309 = .ok (.iconst 0, 1) := by decide +kernel
theorem dL_law_310 : decode cL_law 310 = .ok (.ireturn, 1) := by decide +kernel
theorem dL_law_311 : decode cL_law 311 = .ok (.aload_n 1, 1) := by decide +kernel
theorem dL_law_312 : decode cL_law 312 = .ok (.invokevirtual 44, 3) := by decide +kernel
theorem dL_law_315 : decode cL_law 315 = .ok (.aload_n 2, 1) := by decide +kernel
theorem dL_law_316 : decode cL_law 316 = .ok (.invokevirtual 47, 3) := by decide +kernel
theorem dL_law_319 : decode cL_law 319 = .ok (.if_icmp .eq 614, 3) := by decide +kernel
theorem dL_law_322 : decode cL_law 322 = .ok (.iconst 0, 1) := by decide +kernel
theorem dL_law_323 : decode cL_law 323 = .ok (.ireturn, 1) := by decide +kernel
theorem dL_law_324 : decode cL_law 324 = .ok (.aload_n 1, 1) := by decide +kernel
theorem dL_law_325 : decode cL_law 325 = .ok (.aload_n 0, 1) := by decide +kernel
theorem dL_law_326 : decode cL_law 326 = .ok (.iload_n 3, 1) := by decide +kernel
theorem dL_law_327 : decode cL_law 327 = .ok (.iconst 1, 1) := by decide +kernel
theorem dL_law_328 : decode cL_law 328 = .ok (.iadd, 1) := by decide +kernel
theorem dL_law_329 : decode cL_law 329 = .ok (.iaload, 1) := by decide +kernel
theorem dL_law_330 : decode cL_law 330 = .ok (.invokevirtual 48, 3) := by decide +kernel
theorem dL_law_333 : decode cL_law 333 = .ok (.aload_n 2, 1) := by decide +kernel
theorem dL_law_334 : decode cL_law 334 = .ok (.aload_n 0, 1) := by decide +kernel
theorem dL_law_335 : decode cL_law 335 = .ok (.iload_n 3, 1) := by decide +kernel
theorem dL_law_336 : decode cL_law 336 = .ok (.iconst 1, 1) := by decide +kernel
theorem dL_law_337 : decode cL_law 337 = .ok (.iadd, 1) := by decide +kernel
theorem dL_law_338 : decode cL_law 338 = .ok (.iaload, 1) := by decide +kernel
theorem dL_law_339 : decode cL_law 339 = .ok (.invokevirtual 51, 3) := by decide +kernel
theorem dL_law_342 : decode cL_law 342 = .ok (.if_icmp .eq 591, 3) := by decide +kernel
theorem dL_law_345 : decode cL_law 345 = .ok (.iconst 0, 1) := by decide +kernel
theorem dL_law_346 : decode cL_law 346 = .ok (.ireturn, 1) := by decide +kernel
theorem dL_law_347 : decode cL_law 347 = .ok (.aload_n 1, 1) := by decide +kernel
theorem dL_law_348 : decode cL_law 348 = .ok (.invokevirtual 52, 3) := by decide +kernel
theorem dL_law_351 : decode cL_law 351 = .ok (.aload_n 2, 1) := by decide +kernel
theorem dL_law_352 : decode cL_law 352 = .ok (.invokevirtual 55, 3) := by decide +kernel
theorem dL_law_355 : decode cL_law 355 = .ok (.if_icmp .eq 578, 3) := by decide +kernel
theorem dL_law_358 : decode cL_law 358 = .ok (.iconst 0, 1) := by decide +kernel
theorem dL_law_359 : decode cL_law 359 = .ok (.ireturn, 1) := by decide +kernel
theorem dL_law_360 : decode cL_law 360 = .ok (.aload_n 1, 1) := by decide +kernel
theorem dL_law_361 : decode cL_law 361 = .ok (.aload_n 0, 1) := by decide +kernel
theorem dL_law_362 : decode cL_law 362 = .ok (.iload_n 3, 1) := by decide +kernel
theorem dL_law_363 : decode cL_law 363 = .ok (.iconst 1, 1) := by decide +kernel
theorem dL_law_364 : decode cL_law 364 = .ok (.iadd, 1) := by decide +kernel
theorem dL_law_365 : decode cL_law 365 = .ok (.iaload, 1) := by decide +kernel
theorem dL_law_366 : decode cL_law 366 = .ok (.invokevirtual 56, 3) := by decide +kernel
theorem dL_law_369 : decode cL_law 369 = .ok (.aload_n 2, 1) := by decide +kernel
theorem dL_law_370 : decode cL_law 370 = .ok (.aload_n 0, 1) := by decide +kernel
theorem dL_law_371 : decode cL_law 371 = .ok (.iload_n 3, 1) := by decide +kernel
theorem dL_law_372 : decode cL_law 372 = .ok (.iconst 1, 1) := by decide +kernel
theorem dL_law_373 : decode cL_law 373 = .ok (.iadd, 1) := by decide +kernel
theorem dL_law_374 : decode cL_law 374 = .ok (.iaload, 1) := by decide +kernel
theorem dL_law_375 : decode cL_law 375 = .ok (.invokevirtual 59, 3) := by decide +kernel
theorem dL_law_378 : decode cL_law 378 = .ok (.if_icmp .eq 555, 3) := by decide +kernel
theorem dL_law_381 : decode cL_law 381 = .ok (.iconst 0, 1) := by decide +kernel
theorem dL_law_382 : decode cL_law 382 = .ok (.ireturn, 1) := by decide +kernel
theorem dL_law_383 : decode cL_law 383 = .ok (.aload_n 1, 1) := by decide +kernel
theorem dL_law_384 : decode cL_law 384 = .ok (.invokevirtual 60, 3) := by decide +kernel
theorem dL_law_387 : decode cL_law 387 = .ok (.aload_n 2, 1) := by decide +kernel
theorem dL_law_388 : decode cL_law 388 = .ok (.invokevirtual 63, 3) := by decide +kernel
theorem dL_law_391 : decode cL_law 391 = .ok (.if_icmp .eq 542, 3) := by decide +kernel
theorem dL_law_394 : decode cL_law 394 = .ok (.iconst 0, 1) := by decide +kernel
theorem dL_law_395 : decode cL_law 395 = .ok (.ireturn, 1) := by decide +kernel
theorem dL_law_396 : decode cL_law 396 = .ok (.aload_n 1, 1) := by decide +kernel
theorem dL_law_397 : decode cL_law 397 = .ok (.invokevirtual 64, 3) := by decide +kernel
theorem dL_law_400 : decode cL_law 400 = .ok (.aload_n 2, 1) := by decide +kernel
theorem dL_law_401 : decode cL_law 401 = .ok (.invokevirtual 67, 3) := by decide +kernel
theorem dL_law_404 : decode cL_law 404 = .ok (.if_icmp .eq 529, 3) := by decide +kernel
theorem dL_law_407 : decode cL_law 407 = .ok (.iconst 0, 1) := by decide +kernel
theorem dL_law_408 : decode cL_law 408 = .ok (.ireturn, 1) := by decide +kernel
theorem dL_law_409 : decode cL_law 409 = .ok (.aload_n 1, 1) := by decide +kernel
theorem dL_law_410 : decode cL_law 410 = .ok (.aload_n 0, 1) := by decide +kernel
theorem dL_law_411 : decode cL_law 411 = .ok (.iload_n 3, 1) := by decide +kernel
theorem dL_law_412 : decode cL_law 412 = .ok (.iconst 1, 1) := by decide +kernel
theorem dL_law_413 : decode cL_law 413 = .ok (.iadd, 1) := by decide +kernel
theorem dL_law_414 : decode cL_law 414 = .ok (.iaload, 1) := by decide +kernel
theorem dL_law_415 : decode cL_law 415 = .ok (.invokevirtual 68, 3) := by decide +kernel
theorem dL_law_418 : decode cL_law 418 = .ok (.aload_n 2, 1) := by decide +kernel
theorem dL_law_419 : decode cL_law 419 = .ok (.aload_n 0, 1) := by decide +kernel
theorem dL_law_420 : decode cL_law 420 = .ok (.iload_n 3, 1) := by decide +kernel
theorem dL_law_421 : decode cL_law 421 = .ok (.iconst 1, 1) := by decide +kernel
theorem dL_law_422 : decode cL_law 422 = .ok (.iadd, 1) := by decide +kernel
theorem dL_law_423 : decode cL_law 423 = .ok (.iaload, 1) := by decide +kernel
theorem dL_law_424 : decode cL_law 424 = .ok (.invokevirtual 71, 3) := by decide +kernel
theorem dL_law_427 : decode cL_law 427 = .ok (.if_icmp .eq 506, 3) := by decide +kernel
theorem dL_law_430 : decode cL_law 430 = .ok (.iconst 0, 1) := by decide +kernel
theorem dL_law_431 : decode cL_law 431 = .ok (.ireturn, 1) := by decide +kernel
theorem dL_law_432 : decode cL_law 432 = .ok (.aload_n 1, 1) := by decide +kernel
theorem dL_law_433 : decode cL_law 433 = .ok (.aload_n 0, 1) := by decide +kernel
theorem dL_law_434 : decode cL_law 434 = .ok (.iload_n 3, 1) := by decide +kernel
theorem dL_law_435 : decode cL_law 435 = .ok (.iconst 1, 1) := by decide +kernel
theorem dL_law_436 : decode cL_law 436 = .ok (.iadd, 1) := by decide +kernel
theorem dL_law_437 : decode cL_law 437 = .ok (.iaload, 1) := by decide +kernel
theorem dL_law_438 : decode cL_law 438 = .ok (.aload_n 0, 1) := by decide +kernel
theorem dL_law_439 : decode cL_law 439 = .ok (.iload_n 3, 1) := by decide +kernel
theorem dL_law_440 : decode cL_law 440 = .ok (.iconst 2, 1) := by decide +kernel
theorem dL_law_441 : decode cL_law 441 = .ok (.iadd, 1) := by decide +kernel
theorem dL_law_442 : decode cL_law 442 = .ok (.iaload, 1) := by decide +kernel
theorem dL_law_443 : decode cL_law 443 = .ok (.ifCond .eq 7, 3) := by decide +kernel
theorem dL_law_446 : decode cL_law 446 = .ok (.iconst 1, 1) := by decide +kernel
theorem dL_law_447 : decode cL_law 447 = .ok (.goto 4, 3) := by decide +kernel
theorem dL_law_450 : decode cL_law 450 = .ok (.iconst 0, 1) := by decide +kernel
theorem dL_law_451 : decode cL_law 451 = .ok (.invokevirtual 72, 3) := by decide +kernel
theorem dL_law_454 : decode cL_law 454 = .ok (.aload_n 2, 1) := by decide +kernel
theorem dL_law_455 : decode cL_law 455 = .ok (.aload_n 0, 1) := by decide +kernel
theorem dL_law_456 : decode cL_law 456 = .ok (.iload_n 3, 1) := by decide +kernel
theorem dL_law_457 : decode cL_law 457 = .ok (.iconst 1, 1) := by decide +kernel
theorem dL_law_458 : decode cL_law 458 = .ok (.iadd, 1) := by decide +kernel
theorem dL_law_459 : decode cL_law 459 = .ok (.iaload, 1) := by decide +kernel
theorem dL_law_460 : decode cL_law 460 = .ok (.aload_n 0, 1) := by decide +kernel
theorem dL_law_461 : decode cL_law 461 = .ok (.iload_n 3, 1) := by decide +kernel
theorem dL_law_462 : decode cL_law 462 = .ok (.iconst 2, 1) := by decide +kernel
theorem dL_law_463 : decode cL_law 463 = .ok (.iadd, 1) := by decide +kernel
theorem dL_law_464 : decode cL_law 464 = .ok (.iaload, 1) := by decide +kernel
theorem dL_law_465 : decode cL_law 465 = .ok (.ifCond .eq 7, 3) := by decide +kernel
theorem dL_law_468 : decode cL_law 468 = .ok (.iconst 1, 1) := by decide +kernel
theorem dL_law_469 : decode cL_law 469 = .ok (.goto 4, 3) := by decide +kernel
theorem dL_law_472 : decode cL_law 472 = .ok (.iconst 0, 1) := by decide +kernel
theorem dL_law_473 : decode cL_law 473 = .ok (.invokevirtual 76, 3) := by decide +kernel
theorem dL_law_476 : decode cL_law 476 = .ok (.if_icmp .eq 457, 3) := by decide +kernel
theorem dL_law_479 : decode cL_law 479 = .ok (.iconst 0, 1) := by decide +kernel
theorem dL_law_480 : decode cL_law 480 = .ok (.ireturn, 1) := by decide +kernel
theorem dL_law_481 : decode cL_law 481 = .ok (.aload_n 1, 1) := by decide +kernel
theorem dL_law_482 : decode cL_law 482 = .ok (.aload_n 0, 1) := by decide +kernel
theorem dL_law_483 : decode cL_law 483 = .ok (.iload_n 3, 1) := by decide +kernel
theorem dL_law_484 : decode cL_law 484 = .ok (.iconst 1, 1) := by decide +kernel
theorem dL_law_485 : decode cL_law 485 = .ok (.iadd, 1) := by decide +kernel
theorem dL_law_486 : decode cL_law 486 = .ok (.iaload, 1) := by decide +kernel
theorem dL_law_487 : decode cL_law 487 = .ok (.aload_n 0, 1) := by decide +kernel
theorem dL_law_488 : decode cL_law 488 = .ok (.iload_n 3, 1) := by decide +kernel
theorem dL_law_489 : decode cL_law 489 = .ok (.iconst 2, 1) := by decide +kernel
theorem dL_law_490 : decode cL_law 490 = .ok (.iadd, 1) := by decide +kernel
theorem dL_law_491 : decode cL_law 491 = .ok (.iaload, 1) := by decide +kernel
theorem dL_law_492 : decode cL_law 492 = .ok (.invokevirtual 77, 3) := by decide +kernel
theorem dL_law_495 : decode cL_law 495 = .ok (.aload_n 2, 1) := by decide +kernel
theorem dL_law_496 : decode cL_law 496 = .ok (.aload_n 0, 1) := by decide +kernel
theorem dL_law_497 : decode cL_law 497 = .ok (.iload_n 3, 1) := by decide +kernel
theorem dL_law_498 : decode cL_law 498 = .ok (.iconst 1, 1) := by decide +kernel
theorem dL_law_499 : decode cL_law 499 = .ok (.iadd, 1) := by decide +kernel
theorem dL_law_500 : decode cL_law 500 = .ok (.iaload, 1) := by decide +kernel
theorem dL_law_501 : decode cL_law 501 = .ok (.aload_n 0, 1) := by decide +kernel
theorem dL_law_502 : decode cL_law 502 = .ok (.iload_n 3, 1) := by decide +kernel
theorem dL_law_503 : decode cL_law 503 = .ok (.iconst 2, 1) := by decide +kernel
theorem dL_law_504 : decode cL_law 504 = .ok (.iadd, 1) := by decide +kernel
theorem dL_law_505 : decode cL_law 505 = .ok (.iaload, 1) := by decide +kernel
theorem dL_law_506 : decode cL_law 506 = .ok (.invokevirtual 80, 3) := by decide +kernel
theorem dL_law_509 : decode cL_law 509 = .ok (.if_icmp .eq 424, 3) := by decide +kernel
theorem dL_law_512 : decode cL_law 512 = .ok (.iconst 0, 1) := by decide +kernel
theorem dL_law_513 : decode cL_law 513 = .ok (.ireturn, 1) := by decide +kernel
theorem dL_law_514 : decode cL_law 514 = .ok (.aload_n 1, 1) := by decide +kernel
theorem dL_law_515 : decode cL_law 515 = .ok (.aload_n 0, 1) := by decide +kernel
theorem dL_law_516 : decode cL_law 516 = .ok (.iload_n 3, 1) := by decide +kernel
theorem dL_law_517 : decode cL_law 517 = .ok (.iconst 1, 1) := by decide +kernel
theorem dL_law_518 : decode cL_law 518 = .ok (.iadd, 1) := by decide +kernel
theorem dL_law_519 : decode cL_law 519 = .ok (.iaload, 1) := by decide +kernel
theorem dL_law_520 : decode cL_law 520 = .ok (.invokevirtual 81, 3) := by decide +kernel
theorem dL_law_523 : decode cL_law 523 = .ok (.aload_n 2, 1) := by decide +kernel
theorem dL_law_524 : decode cL_law 524 = .ok (.aload_n 0, 1) := by decide +kernel
theorem dL_law_525 : decode cL_law 525 = .ok (.iload_n 3, 1) := by decide +kernel
theorem dL_law_526 : decode cL_law 526 = .ok (.iconst 1, 1) := by decide +kernel
theorem dL_law_527 : decode cL_law 527 = .ok (.iadd, 1) := by decide +kernel
theorem dL_law_528 : decode cL_law 528 = .ok (.iaload, 1) := by decide +kernel
theorem dL_law_529 : decode cL_law 529 = .ok (.invokevirtual 84, 3) := by decide +kernel
theorem dL_law_532 : decode cL_law 532 = .ok (.if_icmp .eq 401, 3) := by decide +kernel
theorem dL_law_535 : decode cL_law 535 = .ok (.iconst 0, 1) := by decide +kernel
theorem dL_law_536 : decode cL_law 536 = .ok (.ireturn, 1) := by decide +kernel
theorem dL_law_537 : decode cL_law 537 = .ok (.aload_n 1, 1) := by decide +kernel
theorem dL_law_538 : decode cL_law 538 = .ok (.aload_n 0, 1) := by decide +kernel
theorem dL_law_539 : decode cL_law 539 = .ok (.iload_n 3, 1) := by decide +kernel
theorem dL_law_540 : decode cL_law 540 = .ok (.iconst 1, 1) := by decide +kernel
theorem dL_law_541 : decode cL_law 541 = .ok (.iadd, 1) := by decide +kernel
theorem dL_law_542 : decode cL_law 542 = .ok (.iaload, 1) := by decide +kernel
theorem dL_law_543 : decode cL_law 543 = .ok (.aload_n 0, 1) := by decide +kernel
theorem dL_law_544 : decode cL_law 544 = .ok (.iload_n 3, 1) := by decide +kernel
theorem dL_law_545 : decode cL_law 545 = .ok (.iconst 2, 1) := by decide +kernel
theorem dL_law_546 : decode cL_law 546 = .ok (.iadd, 1) := by decide +kernel
theorem dL_law_547 : decode cL_law 547 = .ok (.iaload, 1) := by decide +kernel
theorem dL_law_548 : decode cL_law 548 = .ok (.invokevirtual 85, 3) := by decide +kernel
theorem dL_law_551 : decode cL_law 551 = .ok (.aload_n 2, 1) := by decide +kernel
theorem dL_law_552 : decode cL_law 552 = .ok (.aload_n 0, 1) := by decide +kernel
theorem dL_law_553 : decode cL_law 553 = .ok (.iload_n 3, 1) := by decide +kernel
theorem dL_law_554 : decode cL_law 554 = .ok (.iconst 1, 1) := by decide +kernel
theorem dL_law_555 : decode cL_law 555 = .ok (.iadd, 1) := by decide +kernel
theorem dL_law_556 : decode cL_law 556 = .ok (.iaload, 1) := by decide +kernel
theorem dL_law_557 : decode cL_law 557 = .ok (.aload_n 0, 1) := by decide +kernel
theorem dL_law_558 : decode cL_law 558 = .ok (.iload_n 3, 1) := by decide +kernel
theorem dL_law_559 : decode cL_law 559 = .ok (.iconst 2, 1) := by decide +kernel
theorem dL_law_560 : decode cL_law 560 = .ok (.iadd, 1) := by decide +kernel
theorem dL_law_561 : decode cL_law 561 = .ok (.iaload, 1) := by decide +kernel
theorem dL_law_562 : decode cL_law 562 = .ok (.invokevirtual 88, 3) := by decide +kernel
theorem dL_law_565 : decode cL_law 565 = .ok (.if_icmp .eq 368, 3) := by decide +kernel
theorem dL_law_568 : decode cL_law 568 = .ok (.iconst 0, 1) := by decide +kernel
theorem dL_law_569 : decode cL_law 569 = .ok (.ireturn, 1) := by decide +kernel
theorem dL_law_570 : decode cL_law 570 = .ok (.aload_n 1, 1) := by decide +kernel
theorem dL_law_571 : decode cL_law 571 = .ok (.aload_n 0, 1) := by decide +kernel
theorem dL_law_572 : decode cL_law 572 = .ok (.iload_n 3, 1) := by decide +kernel
theorem dL_law_573 : decode cL_law 573 = .ok (.iconst 1, 1) := by decide +kernel
theorem dL_law_574 : decode cL_law 574 = .ok (.iadd, 1) := by decide +kernel
theorem dL_law_575 : decode cL_law 575 = .ok (.iaload, 1) := by decide +kernel
theorem dL_law_576 : decode cL_law 576 = .ok (.aload_n 0, 1) := by decide +kernel
theorem dL_law_577 : decode cL_law 577 = .ok (.iload_n 3, 1) := by decide +kernel
theorem dL_law_578 : decode cL_law 578 = .ok (.iconst 2, 1) := by decide +kernel
theorem dL_law_579 : decode cL_law 579 = .ok (.iadd, 1) := by decide +kernel
theorem dL_law_580 : decode cL_law 580 = .ok (.iaload, 1) := by decide +kernel
theorem dL_law_581 : decode cL_law 581 = .ok (.ifCond .eq 7, 3) := by decide +kernel
theorem dL_law_584 : decode cL_law 584 = .ok (.iconst 1, 1) := by decide +kernel
theorem dL_law_585 : decode cL_law 585 = .ok (.goto 4, 3) := by decide +kernel
theorem dL_law_588 : decode cL_law 588 = .ok (.iconst 0, 1) := by decide +kernel
theorem dL_law_589 : decode cL_law 589 = .ok (.invokevirtual 89, 3) := by decide +kernel
theorem dL_law_592 : decode cL_law 592 = .ok (.aload_n 2, 1) := by decide +kernel
theorem dL_law_593 : decode cL_law 593 = .ok (.aload_n 0, 1) := by decide +kernel
theorem dL_law_594 : decode cL_law 594 = .ok (.iload_n 3, 1) := by decide +kernel
theorem dL_law_595 : decode cL_law 595 = .ok (.iconst 1, 1) := by decide +kernel
theorem dL_law_596 : decode cL_law 596 = .ok (.iadd, 1) := by decide +kernel
theorem dL_law_597 : decode cL_law 597 = .ok (.iaload, 1) := by decide +kernel
theorem dL_law_598 : decode cL_law 598 = .ok (.aload_n 0, 1) := by decide +kernel
theorem dL_law_599 : decode cL_law 599 = .ok (.iload_n 3, 1) := by decide +kernel
theorem dL_law_600 : decode cL_law 600 = .ok (.iconst 2, 1) := by decide +kernel
theorem dL_law_601 : decode cL_law 601 = .ok (.iadd, 1) := by decide +kernel
theorem dL_law_602 : decode cL_law 602 = .ok (.iaload, 1) := by decide +kernel
theorem dL_law_603 : decode cL_law 603 = .ok (.ifCond .eq 7, 3) := by decide +kernel
theorem dL_law_606 : decode cL_law 606 = .ok (.iconst 1, 1) := by decide +kernel
theorem dL_law_607 : decode cL_law 607 = .ok (.goto 4, 3) := by decide +kernel
theorem dL_law_610 : decode cL_law 610 = .ok (.iconst 0, 1) := by decide +kernel
theorem dL_law_611 : decode cL_law 611 = .ok (.invokevirtual 92, 3) := by decide +kernel
theorem dL_law_614 : decode cL_law 614 = .ok (.if_icmp .eq 319, 3) := by decide +kernel
theorem dL_law_617 : decode cL_law 617 = .ok (.iconst 0, 1) := by decide +kernel
theorem dL_law_618 : decode cL_law 618 = .ok (.ireturn, 1) := by decide +kernel
theorem dL_law_619 : decode cL_law 619 = .ok (.aload_n 1, 1) := by decide +kernel
theorem dL_law_620 : decode cL_law 620 = .ok (.aload_n 0, 1) := by decide +kernel
theorem dL_law_621 : decode cL_law 621 = .ok (.iload_n 3, 1) := by decide +kernel
theorem dL_law_622 : decode cL_law 622 = .ok (.iconst 1, 1) := by decide +kernel
theorem dL_law_623 : decode cL_law 623 = .ok (.iadd, 1) := by decide +kernel
theorem dL_law_624 : decode cL_law 624 = .ok (.iaload, 1) := by decide +kernel
theorem dL_law_625 : decode cL_law 625 = .ok (.aload_n 0, 1) := by decide +kernel
theorem dL_law_626 : decode cL_law 626 = .ok (.iload_n 3, 1) := by decide +kernel
theorem dL_law_627 : decode cL_law 627 = .ok (.iconst 2, 1) := by decide +kernel
theorem dL_law_628 : decode cL_law 628 = .ok (.iadd, 1) := by decide +kernel
theorem dL_law_629 : decode cL_law 629 = .ok (.iaload, 1) := by decide +kernel
theorem dL_law_630 : decode cL_law 630 = .ok (.aload_n 0, 1) := by decide +kernel
theorem dL_law_631 : decode cL_law 631 = .ok (.iload_n 3, 1) := by decide +kernel
theorem dL_law_632 : decode cL_law 632 = .ok (.iconst 3, 1) := by decide +kernel
theorem dL_law_633 : decode cL_law 633 = .ok (.iadd, 1) := by decide +kernel
theorem dL_law_634 : decode cL_law 634 = .ok (.iaload, 1) := by decide +kernel
theorem dL_law_635 : decode cL_law 635 = .ok (.invokevirtual 93, 3) := by decide +kernel
theorem dL_law_638 : decode cL_law 638 = .ok (.aload_n 2, 1) := by decide +kernel
theorem dL_law_639 : decode cL_law 639 = .ok (.aload_n 0, 1) := by decide +kernel
theorem dL_law_640 : decode cL_law 640 = .ok (.iload_n 3, 1) := by decide +kernel
theorem dL_law_641 : decode cL_law 641 = .ok (.iconst 1, 1) := by decide +kernel
theorem dL_law_642 : decode cL_law 642 = .ok (.iadd, 1) := by decide +kernel
theorem dL_law_643 : decode cL_law 643 = .ok (.iaload, 1) := by decide +kernel
theorem dL_law_644 : decode cL_law 644 = .ok (.aload_n 0, 1) := by decide +kernel
theorem dL_law_645 : decode cL_law 645 = .ok (.iload_n 3, 1) := by decide +kernel
theorem dL_law_646 : decode cL_law 646 = .ok (.iconst 2, 1) := by decide +kernel
theorem dL_law_647 : decode cL_law 647 = .ok (.iadd, 1) := by decide +kernel
theorem dL_law_648 : decode cL_law 648 = .ok (.iaload, 1) := by decide +kernel
theorem dL_law_649 : decode cL_law 649 = .ok (.aload_n 0, 1) := by decide +kernel
theorem dL_law_650 : decode cL_law 650 = .ok (.iload_n 3, 1) := by decide +kernel
theorem dL_law_651 : decode cL_law 651 = .ok (.iconst 3, 1) := by decide +kernel
theorem dL_law_652 : decode cL_law 652 = .ok (.iadd, 1) := by decide +kernel
theorem dL_law_653 : decode cL_law 653 = .ok (.iaload, 1) := by decide +kernel
theorem dL_law_654 : decode cL_law 654 = .ok (.invokevirtual 97, 3) := by decide +kernel
theorem dL_law_657 : decode cL_law 657 = .ok (.if_icmp .eq 276, 3) := by decide +kernel
theorem dL_law_660 : decode cL_law 660 = .ok (.iconst 0, 1) := by decide +kernel
theorem dL_law_661 : decode cL_law 661 = .ok (.ireturn, 1) := by decide +kernel
theorem dL_law_662 : decode cL_law 662 = .ok (.aload_n 1, 1) := by decide +kernel
theorem dL_law_663 : decode cL_law 663 = .ok (.invokevirtual 98, 3) := by decide +kernel
theorem dL_law_666 : decode cL_law 666 = .ok (.aload_n 2, 1) := by decide +kernel
theorem dL_law_667 : decode cL_law 667 = .ok (.invokevirtual 101, 3) := by decide +kernel
theorem dL_law_670 : decode cL_law 670 = .ok (.if_icmp .eq 263, 3) := by decide +kernel
theorem dL_law_673 : decode cL_law 673 = .ok (.iconst 0, 1) := by decide +kernel
theorem dL_law_674 : decode cL_law 674 = .ok (.ireturn, 1) := by decide +kernel
theorem dL_law_675 : decode cL_law 675 = .ok (.aload_n 1, 1) := by decide +kernel
theorem dL_law_676 : decode cL_law 676 = .ok (.aload_n 0, 1) := by decide +kernel
theorem dL_law_677 : decode cL_law 677 = .ok (.iload_n 3, 1) := by decide +kernel
theorem dL_law_678 : decode cL_law 678 = .ok (.iconst 1, 1) := by decide +kernel
theorem dL_law_679 : decode cL_law 679 = .ok (.iadd, 1) := by decide +kernel
theorem dL_law_680 : decode cL_law 680 = .ok (.iaload, 1) := by decide +kernel
theorem dL_law_681 : decode cL_law 681 = .ok (.invokevirtual 102, 3) := by decide +kernel
theorem dL_law_684 : decode cL_law 684 = .ok (.aload_n 2, 1) := by decide +kernel
theorem dL_law_685 : decode cL_law 685 = .ok (.aload_n 0, 1) := by decide +kernel
theorem dL_law_686 : decode cL_law 686 = .ok (.iload_n 3, 1) := by decide +kernel
theorem dL_law_687 : decode cL_law 687 = .ok (.iconst 1, 1) := by decide +kernel
theorem dL_law_688 : decode cL_law 688 = .ok (.iadd, 1) := by decide +kernel
theorem dL_law_689 : decode cL_law 689 = .ok (.iaload, 1) := by decide +kernel
theorem dL_law_690 : decode cL_law 690 = .ok (.invokevirtual 105, 3) := by decide +kernel
theorem dL_law_693 : decode cL_law 693 = .ok (.if_icmp .eq 240, 3) := by decide +kernel
theorem dL_law_696 : decode cL_law 696 = .ok (.iconst 0, 1) := by decide +kernel
theorem dL_law_697 : decode cL_law 697 = .ok (.ireturn, 1) := by decide +kernel
theorem dL_law_698 : decode cL_law 698 = .ok (.aload_n 1, 1) := by decide +kernel
theorem dL_law_699 : decode cL_law 699 = .ok (.aload_n 0, 1) := by decide +kernel
theorem dL_law_700 : decode cL_law 700 = .ok (.iload_n 3, 1) := by decide +kernel
theorem dL_law_701 : decode cL_law 701 = .ok (.iconst 1, 1) := by decide +kernel
theorem dL_law_702 : decode cL_law 702 = .ok (.iadd, 1) := by decide +kernel
theorem dL_law_703 : decode cL_law 703 = .ok (.iaload, 1) := by decide +kernel
theorem dL_law_704 : decode cL_law 704 = .ok (.aload_n 0, 1) := by decide +kernel
theorem dL_law_705 : decode cL_law 705 = .ok (.iload_n 3, 1) := by decide +kernel
theorem dL_law_706 : decode cL_law 706 = .ok (.iconst 2, 1) := by decide +kernel
theorem dL_law_707 : decode cL_law 707 = .ok (.iadd, 1) := by decide +kernel
theorem dL_law_708 : decode cL_law 708 = .ok (.iaload, 1) := by decide +kernel
theorem dL_law_709 : decode cL_law 709 = .ok (.aload_n 0, 1) := by decide +kernel
theorem dL_law_710 : decode cL_law 710 = .ok (.iload_n 3, 1) := by decide +kernel
theorem dL_law_711 : decode cL_law 711 = .ok (.iconst 3, 1) := by decide +kernel
theorem dL_law_712 : decode cL_law 712 = .ok (.iadd, 1) := by decide +kernel
theorem dL_law_713 : decode cL_law 713 = .ok (.iaload, 1) := by decide +kernel
theorem dL_law_714 : decode cL_law 714 = .ok (.invokevirtual 106, 3) := by decide +kernel
theorem dL_law_717 : decode cL_law 717 = .ok (.aload_n 2, 1) := by decide +kernel
theorem dL_law_718 : decode cL_law 718 = .ok (.aload_n 0, 1) := by decide +kernel
theorem dL_law_719 : decode cL_law 719 = .ok (.iload_n 3, 1) := by decide +kernel
theorem dL_law_720 : decode cL_law 720 = .ok (.iconst 1, 1) := by decide +kernel
theorem dL_law_721 : decode cL_law 721 = .ok (.iadd, 1) := by decide +kernel
theorem dL_law_722 : decode cL_law 722 = .ok (.iaload, 1) := by decide +kernel
theorem dL_law_723 : decode cL_law 723 = .ok (.aload_n 0, 1) := by decide +kernel
theorem dL_law_724 : decode cL_law 724 = .ok (.iload_n 3, 1) := by decide +kernel
theorem dL_law_725 : decode cL_law 725 = .ok (.iconst 2, 1) := by decide +kernel
theorem dL_law_726 : decode cL_law 726 = .ok (.iadd, 1) := by decide +kernel
theorem dL_law_727 : decode cL_law 727 = .ok (.iaload, 1) := by decide +kernel
theorem dL_law_728 : decode cL_law 728 = .ok (.aload_n 0, 1) := by decide +kernel
theorem dL_law_729 : decode cL_law 729 = .ok (.iload_n 3, 1) := by decide +kernel
theorem dL_law_730 : decode cL_law 730 = .ok (.iconst 3, 1) := by decide +kernel
theorem dL_law_731 : decode cL_law 731 = .ok (.iadd, 1) := by decide +kernel
theorem dL_law_732 : decode cL_law 732 = .ok (.iaload, 1) := by decide +kernel
theorem dL_law_733 : decode cL_law 733 = .ok (.invokevirtual 109, 3) := by decide +kernel
theorem dL_law_736 : decode cL_law 736 = .ok (.if_icmp .eq 197, 3) := by decide +kernel
theorem dL_law_739 : decode cL_law 739 = .ok (.iconst 0, 1) := by decide +kernel
theorem dL_law_740 : decode cL_law 740 = .ok (.ireturn, 1) := by decide +kernel
theorem dL_law_741 : decode cL_law 741 = .ok (.aload_n 1, 1) := by decide +kernel
theorem dL_law_742 : decode cL_law 742 = .ok (.aload_n 0, 1) := by decide +kernel
theorem dL_law_743 : decode cL_law 743 = .ok (.iload_n 3, 1) := by decide +kernel
theorem dL_law_744 : decode cL_law 744 = .ok (.iconst 1, 1) := by decide +kernel
theorem dL_law_745 : decode cL_law 745 = .ok (.iadd, 1) := by decide +kernel
theorem dL_law_746 : decode cL_law 746 = .ok (.iaload, 1) := by decide +kernel
theorem dL_law_747 : decode cL_law 747 = .ok (.aload_n 0, 1) := by decide +kernel
theorem dL_law_748 : decode cL_law 748 = .ok (.iload_n 3, 1) := by decide +kernel
theorem dL_law_749 : decode cL_law 749 = .ok (.iconst 2, 1) := by decide +kernel
theorem dL_law_750 : decode cL_law 750 = .ok (.iadd, 1) := by decide +kernel
theorem dL_law_751 : decode cL_law 751 = .ok (.iaload, 1) := by decide +kernel
theorem dL_law_752 : decode cL_law 752 = .ok (.aload_n 0, 1) := by decide +kernel
theorem dL_law_753 : decode cL_law 753 = .ok (.iload_n 3, 1) := by decide +kernel
theorem dL_law_754 : decode cL_law 754 = .ok (.iconst 3, 1) := by decide +kernel
theorem dL_law_755 : decode cL_law 755 = .ok (.iadd, 1) := by decide +kernel
theorem dL_law_756 : decode cL_law 756 = .ok (.iaload, 1) := by decide +kernel
theorem dL_law_757 : decode cL_law 757 = .ok (.aload_n 0, 1) := by decide +kernel
theorem dL_law_758 : decode cL_law 758 = .ok (.iload_n 3, 1) := by decide +kernel
theorem dL_law_759 : decode cL_law 759 = .ok (.iconst 4, 1) := by decide +kernel
theorem dL_law_760 : decode cL_law 760 = .ok (.iadd, 1) := by decide +kernel
theorem dL_law_761 : decode cL_law 761 = .ok (.iaload, 1) := by decide +kernel
theorem dL_law_762 : decode cL_law 762 = .ok (.ifCond .eq 7, 3) := by decide +kernel
theorem dL_law_765 : decode cL_law 765 = .ok (.iconst 1, 1) := by decide +kernel
theorem dL_law_766 : decode cL_law 766 = .ok (.goto 4, 3) := by decide +kernel
theorem dL_law_769 : decode cL_law 769 = .ok (.iconst 0, 1) := by decide +kernel
theorem dL_law_770 : decode cL_law 770 = .ok (.invokevirtual 110, 3) := by decide +kernel
theorem dL_law_773 : decode cL_law 773 = .ok (.aload_n 2, 1) := by decide +kernel
theorem dL_law_774 : decode cL_law 774 = .ok (.aload_n 0, 1) := by decide +kernel
theorem dL_law_775 : decode cL_law 775 = .ok (.iload_n 3, 1) := by decide +kernel
theorem dL_law_776 : decode cL_law 776 = .ok (.iconst 1, 1) := by decide +kernel
theorem dL_law_777 : decode cL_law 777 = .ok (.iadd, 1) := by decide +kernel
theorem dL_law_778 : decode cL_law 778 = .ok (.iaload, 1) := by decide +kernel
theorem dL_law_779 : decode cL_law 779 = .ok (.aload_n 0, 1) := by decide +kernel
theorem dL_law_780 : decode cL_law 780 = .ok (.iload_n 3, 1) := by decide +kernel
theorem dL_law_781 : decode cL_law 781 = .ok (.iconst 2, 1) := by decide +kernel
theorem dL_law_782 : decode cL_law 782 = .ok (.iadd, 1) := by decide +kernel
theorem dL_law_783 : decode cL_law 783 = .ok (.iaload, 1) := by decide +kernel
theorem dL_law_784 : decode cL_law 784 = .ok (.aload_n 0, 1) := by decide +kernel
theorem dL_law_785 : decode cL_law 785 = .ok (.iload_n 3, 1) := by decide +kernel
theorem dL_law_786 : decode cL_law 786 = .ok (.iconst 3, 1) := by decide +kernel
theorem dL_law_787 : decode cL_law 787 = .ok (.iadd, 1) := by decide +kernel
theorem dL_law_788 : decode cL_law 788 = .ok (.iaload, 1) := by decide +kernel
theorem dL_law_789 : decode cL_law 789 = .ok (.aload_n 0, 1) := by decide +kernel
theorem dL_law_790 : decode cL_law 790 = .ok (.iload_n 3, 1) := by decide +kernel
theorem dL_law_791 : decode cL_law 791 = .ok (.iconst 4, 1) := by decide +kernel
theorem dL_law_792 : decode cL_law 792 = .ok (.iadd, 1) := by decide +kernel
theorem dL_law_793 : decode cL_law 793 = .ok (.iaload, 1) := by decide +kernel
theorem dL_law_794 : decode cL_law 794 = .ok (.ifCond .eq 7, 3) := by decide +kernel
theorem dL_law_797 : decode cL_law 797 = .ok (.iconst 1, 1) := by decide +kernel
theorem dL_law_798 : decode cL_law 798 = .ok (.goto 4, 3) := by decide +kernel
theorem dL_law_801 : decode cL_law 801 = .ok (.iconst 0, 1) := by decide +kernel
theorem dL_law_802 : decode cL_law 802 = .ok (.invokevirtual 114, 3) := by decide +kernel
theorem dL_law_805 : decode cL_law 805 = .ok (.if_icmp .eq 128, 3) := by decide +kernel
theorem dL_law_808 : decode cL_law 808 = .ok (.iconst 0, 1) := by decide +kernel
theorem dL_law_809 : decode cL_law 809 = .ok (.ireturn, 1) := by decide +kernel
theorem dL_law_810 : decode cL_law 810 = .ok (.aload_n 1, 1) := by decide +kernel
theorem dL_law_811 : decode cL_law 811 = .ok (.aload_n 0, 1) := by decide +kernel
theorem dL_law_812 : decode cL_law 812 = .ok (.iload_n 3, 1) := by decide +kernel
theorem dL_law_813 : decode cL_law 813 = .ok (.iconst 1, 1) := by decide +kernel
theorem dL_law_814 : decode cL_law 814 = .ok (.iadd, 1) := by decide +kernel
theorem dL_law_815 : decode cL_law 815 = .ok (.iaload, 1) := by decide +kernel
theorem dL_law_816 : decode cL_law 816 = .ok (.i2l, 1) := by decide +kernel
theorem dL_law_817 : decode cL_law 817 = .ok (.bipush 32, 2) := by decide +kernel
theorem dL_law_819 : decode cL_law 819 = .ok (.lshl, 1) := by decide +kernel
theorem dL_law_820 : decode cL_law 820 = .ok (.aload_n 0, 1) := by decide +kernel
theorem dL_law_821 : decode cL_law 821 = .ok (.iload_n 3, 1) := by decide +kernel
theorem dL_law_822 : decode cL_law 822 = .ok (.iconst 2, 1) := by decide +kernel
theorem dL_law_823 : decode cL_law 823 = .ok (.iadd, 1) := by decide +kernel
theorem dL_law_824 : decode cL_law 824 = .ok (.iaload, 1) := by decide +kernel
theorem dL_law_825 : decode cL_law 825 = .ok (.i2l, 1) := by decide +kernel
theorem dL_law_826 : decode cL_law 826 = .ok (.ldc2_w 115, 3) := by decide +kernel
theorem dL_law_829 : decode cL_law 829 = .ok (.land, 1) := by decide +kernel
theorem dL_law_830 : decode cL_law 830 = .ok (.lor, 1) := by decide +kernel
theorem dL_law_831 : decode cL_law 831 = .ok (.invokevirtual 117, 3) := by decide +kernel
theorem dL_law_834 : decode cL_law 834 = .ok (.aload_n 2, 1) := by decide +kernel
theorem dL_law_835 : decode cL_law 835 = .ok (.aload_n 0, 1) := by decide +kernel
theorem dL_law_836 : decode cL_law 836 = .ok (.iload_n 3, 1) := by decide +kernel
theorem dL_law_837 : decode cL_law 837 = .ok (.iconst 1, 1) := by decide +kernel
theorem dL_law_838 : decode cL_law 838 = .ok (.iadd, 1) := by decide +kernel
theorem dL_law_839 : decode cL_law 839 = .ok (.iaload, 1) := by decide +kernel
theorem dL_law_840 : decode cL_law 840 = .ok (.i2l, 1) := by decide +kernel
theorem dL_law_841 : decode cL_law 841 = .ok (.bipush 32, 2) := by decide +kernel
theorem dL_law_843 : decode cL_law 843 = .ok (.lshl, 1) := by decide +kernel
theorem dL_law_844 : decode cL_law 844 = .ok (.aload_n 0, 1) := by decide +kernel
theorem dL_law_845 : decode cL_law 845 = .ok (.iload_n 3, 1) := by decide +kernel
theorem dL_law_846 : decode cL_law 846 = .ok (.iconst 2, 1) := by decide +kernel
theorem dL_law_847 : decode cL_law 847 = .ok (.iadd, 1) := by decide +kernel
theorem dL_law_848 : decode cL_law 848 = .ok (.iaload, 1) := by decide +kernel
theorem dL_law_849 : decode cL_law 849 = .ok (.i2l, 1) := by decide +kernel
theorem dL_law_850 : decode cL_law 850 = .ok (.ldc2_w 115, 3) := by decide +kernel
theorem dL_law_853 : decode cL_law 853 = .ok (.land, 1) := by decide +kernel
theorem dL_law_854 : decode cL_law 854 = .ok (.lor, 1) := by decide +kernel
theorem dL_law_855 : decode cL_law 855 = .ok (.invokevirtual 121, 3) := by decide +kernel
theorem dL_law_858 : decode cL_law 858 = .ok (.lcmp, 1) := by decide +kernel
theorem dL_law_859 : decode cL_law 859 = .ok (.ifCond .eq 74, 3) := by decide +kernel
theorem dL_law_862 : decode cL_law 862 = .ok (.iconst 0, 1) := by decide +kernel
theorem dL_law_863 : decode cL_law 863 = .ok (.ireturn, 1) := by decide +kernel
theorem dL_law_864 : decode cL_law 864 = .ok (.aload_n 1, 1) := by decide +kernel
theorem dL_law_865 : decode cL_law 865 = .ok (.aload_n 0, 1) := by decide +kernel
theorem dL_law_866 : decode cL_law 866 = .ok (.iload_n 3, 1) := by decide +kernel
theorem dL_law_867 : decode cL_law 867 = .ok (.iconst 1, 1) := by decide +kernel
theorem dL_law_868 : decode cL_law 868 = .ok (.iadd, 1) := by decide +kernel
theorem dL_law_869 : decode cL_law 869 = .ok (.iaload, 1) := by decide +kernel
theorem dL_law_870 : decode cL_law 870 = .ok (.invokevirtual 122, 3) := by decide +kernel
theorem dL_law_873 : decode cL_law 873 = .ok (.aload_n 2, 1) := by decide +kernel
theorem dL_law_874 : decode cL_law 874 = .ok (.aload_n 0, 1) := by decide +kernel
theorem dL_law_875 : decode cL_law 875 = .ok (.iload_n 3, 1) := by decide +kernel
theorem dL_law_876 : decode cL_law 876 = .ok (.iconst 1, 1) := by decide +kernel
theorem dL_law_877 : decode cL_law 877 = .ok (.iadd, 1) := by decide +kernel
theorem dL_law_878 : decode cL_law 878 = .ok (.iaload, 1) := by decide +kernel
theorem dL_law_879 : decode cL_law 879 = .ok (.invokevirtual 125, 3) := by decide +kernel
theorem dL_law_882 : decode cL_law 882 = .ok (.if_icmp .eq 51, 3) := by decide +kernel
theorem dL_law_885 : decode cL_law 885 = .ok (.iconst 0, 1) := by decide +kernel
theorem dL_law_886 : decode cL_law 886 = .ok (.ireturn, 1) := by decide +kernel
theorem dL_law_887 : decode cL_law 887 = .ok (.aload_n 1, 1) := by decide +kernel
theorem dL_law_888 : decode cL_law 888 = .ok (.aload_n 0, 1) := by decide +kernel
theorem dL_law_889 : decode cL_law 889 = .ok (.iload_n 3, 1) := by decide +kernel
theorem dL_law_890 : decode cL_law 890 = .ok (.iconst 1, 1) := by decide +kernel
theorem dL_law_891 : decode cL_law 891 = .ok (.iadd, 1) := by decide +kernel
theorem dL_law_892 : decode cL_law 892 = .ok (.iaload, 1) := by decide +kernel
theorem dL_law_893 : decode cL_law 893 = .ok (.invokevirtual 126, 3) := by decide +kernel
theorem dL_law_896 : decode cL_law 896 = .ok (.aload_n 2, 1) := by decide +kernel
theorem dL_law_897 : decode cL_law 897 = .ok (.aload_n 0, 1) := by decide +kernel
theorem dL_law_898 : decode cL_law 898 = .ok (.iload_n 3, 1) := by decide +kernel
theorem dL_law_899 : decode cL_law 899 = .ok (.iconst 1, 1) := by decide +kernel
theorem dL_law_900 : decode cL_law 900 = .ok (.iadd, 1) := by decide +kernel
theorem dL_law_901 : decode cL_law 901 = .ok (.iaload, 1) := by decide +kernel
theorem dL_law_902 : decode cL_law 902 = .ok (.invokevirtual 129, 3) := by decide +kernel
theorem dL_law_905 : decode cL_law 905 = .ok (.if_icmp .eq 28, 3) := by decide +kernel
theorem dL_law_908 : decode cL_law 908 = .ok (.iconst 0, 1) := by decide +kernel
theorem dL_law_909 : decode cL_law 909 = .ok (.ireturn, 1) := by decide +kernel
theorem dL_law_910 : decode cL_law 910 = .ok (.aload_n 1, 1) := by decide +kernel
theorem dL_law_911 : decode cL_law 911 = .ok (.aload_n 0, 1) := by decide +kernel
theorem dL_law_912 : decode cL_law 912 = .ok (.iload_n 3, 1) := by decide +kernel
theorem dL_law_913 : decode cL_law 913 = .ok (.iconst 1, 1) := by decide +kernel
theorem dL_law_914 : decode cL_law 914 = .ok (.iadd, 1) := by decide +kernel
theorem dL_law_915 : decode cL_law 915 = .ok (.iaload, 1) := by decide +kernel
theorem dL_law_916 : decode cL_law 916 = .ok (.invokevirtual 130, 3) := by decide +kernel
theorem dL_law_919 : decode cL_law 919 = .ok (.aload_n 2, 1) := by decide +kernel
theorem dL_law_920 : decode cL_law 920 = .ok (.aload_n 0, 1) := by decide +kernel
theorem dL_law_921 : decode cL_law 921 = .ok (.iload_n 3, 1) := by decide +kernel
theorem dL_law_922 : decode cL_law 922 = .ok (.iconst 1, 1) := by decide +kernel
theorem dL_law_923 : decode cL_law 923 = .ok (.iadd, 1) := by decide +kernel
theorem dL_law_924 : decode cL_law 924 = .ok (.iaload, 1) := by decide +kernel
theorem dL_law_925 : decode cL_law 925 = .ok (.invokevirtual 133, 3) := by decide +kernel
theorem dL_law_928 : decode cL_law 928 = .ok (.if_icmp .eq 5, 3) := by decide +kernel
theorem dL_law_931 : decode cL_law 931 = .ok (.iconst 0, 1) := by decide +kernel
theorem dL_law_932 : decode cL_law 932 = .ok (.ireturn, 1) := by decide +kernel
theorem dL_law_933 : decode cL_law 933 = .ok (.iinc 3 5, 3) := by decide +kernel
theorem dL_law_936 : decode cL_law 936 = .ok (.goto (-918), 3) := by decide +kernel
theorem dL_law_939 : decode cL_law 939 = .ok (.iconst 1, 1) := by decide +kernel
theorem dL_law_940 : decode cL_law 940 = .ok (.ireturn, 1) := by decide +kernel
end
section
/-! each word of the tables by its place -/
theorem se_yX2_fits : Cond.selects RX2 yX2_fits yX2_fits ∈ lw_tbl := List.mem_of_getElem? (i := 0) (by decide +kernel)
theorem se_yX2_figure : Cond.selects RX2 yX2_figure yX2_figure ∈ lw_tbl := List.mem_of_getElem? (i := 1) (by decide +kernel)
theorem se_yX8_bitesTillNoneOf : Cond.selects RX8 yX8_bitesTillNoneOf yX8_bitesTillNoneOf ∈ lw_tbl := List.mem_of_getElem? (i := 2) (by decide +kernel)
theorem se_yX3_goOn : Cond.selects RX3 yX3_goOn yX3_goOn ∈ lw_tbl := List.mem_of_getElem? (i := 3) (by decide +kernel)
theorem se_yX8_canBeSaidFrom : Cond.selects RX8 yX8_canBeSaidFrom yX8_canBeSaidFrom ∈ lw_tbl := List.mem_of_getElem? (i := 4) (by decide +kernel)
theorem se_yX7_changeBy : Cond.selects RX7 yX7_changeBy yX7_changeBy ∈ lw_tbl := List.mem_of_getElem? (i := 5) (by decide +kernel)
theorem se_yX8_ordersWith : Cond.selects RX8 yX8_ordersWith yX8_ordersWith ∈ lw_tbl := List.mem_of_getElem? (i := 6) (by decide +kernel)
theorem se_yX4_fitsAll : Cond.selects RX4 yX4_fitsAll yX4_fitsAll ∈ lw_tbl := List.mem_of_getElem? (i := 7) (by decide +kernel)
theorem se_yX6_isLeast : Cond.selects RX6 yX6_isLeast yX6_isLeast ∈ lw_tbl := List.mem_of_getElem? (i := 8) (by decide +kernel)
theorem se_yX6_loss : Cond.selects RX6 yX6_loss yX6_loss ∈ lw_tbl := List.mem_of_getElem? (i := 9) (by decide +kernel)
theorem se_yX8_stillEats : Cond.selects RX8 yX8_stillEats yX8_stillEats ∈ lw_tbl := List.mem_of_getElem? (i := 10) (by decide +kernel)
theorem se_yX8_takeDrawnTurn : Cond.selects RX8 yX8_takeDrawnTurn yX8_takeDrawnTurn ∈ lw_tbl := List.mem_of_getElem? (i := 11) (by decide +kernel)
theorem se_yX9_readTalk : Cond.selects RX9 yX9_readTalk yX9_readTalk ∈ lw_tbl := List.mem_of_getElem? (i := 12) (by decide +kernel)
theorem se_yX9_figure : Cond.selects RX9 yX9_figure yX9_figure ∈ lw_tbl := List.mem_of_getElem? (i := 13) (by decide +kernel)
theorem se_yX9_readPart : Cond.selects RX9 yX9_readPart yX9_readPart ∈ lw_tbl := List.mem_of_getElem? (i := 14) (by decide +kernel)
theorem se_yX9_readEnvoy : Cond.selects RX9 yX9_readEnvoy yX9_readEnvoy ∈ lw_tbl := List.mem_of_getElem? (i := 15) (by decide +kernel)
theorem se_yX9_readClause : Cond.selects RX9 yX9_readClause yX9_readClause ∈ lw_tbl := List.mem_of_getElem? (i := 16) (by decide +kernel)
theorem se_yX9_sayable : Cond.selects RX9 yX9_sayable yX9_sayable ∈ lw_tbl := List.mem_of_getElem? (i := 17) (by decide +kernel)
theorem se_yX9_canSay : Cond.selects RX9 yX9_canSay yX9_canSay ∈ lw_tbl := List.mem_of_getElem? (i := 18) (by decide +kernel)
theorem se_yX9_noEnvoy : Cond.selects RX9 yX9_noEnvoy yX9_noEnvoy ∈ lw_tbl := List.mem_of_getElem? (i := 19) (by decide +kernel)
theorem se_yX9_painOf : Cond.selects RX9 yX9_painOf yX9_painOf ∈ lw_tbl := List.mem_of_getElem? (i := 20) (by decide +kernel)
theorem se_yX9_noClause : Cond.selects RX9 yX9_noClause yX9_noClause ∈ lw_tbl := List.mem_of_getElem? (i := 21) (by decide +kernel)
theorem se_yX9_worthOf : Cond.selects RX9 yX9_worthOf yX9_worthOf ∈ lw_tbl := List.mem_of_getElem? (i := 22) (by decide +kernel)
theorem se_yX9_note : Cond.selects RX9 yX9_note yX9_note ∈ lw_tbl := List.mem_of_getElem? (i := 23) (by decide +kernel)
theorem se_yX9_goBite : Cond.selects RX9 yX9_goBite yX9_goBite ∈ lw_tbl := List.mem_of_getElem? (i := 24) (by decide +kernel)
theorem se_yX9_till : Cond.selects RX9 yX9_till yX9_till ∈ lw_tbl := List.mem_of_getElem? (i := 25) (by decide +kernel)
theorem se_yX9_begin : Cond.selects RX9 yX9_begin yX9_begin ∈ lw_tbl := List.mem_of_getElem? (i := 26) (by decide +kernel)
theorem se_yX9_findBest : Cond.selects RX9 yX9_findBest yX9_findBest ∈ lw_tbl := List.mem_of_getElem? (i := 27) (by decide +kernel)
theorem se_yX9_does : Cond.selects RX9 yX9_does yX9_does ∈ lw_tbl := List.mem_of_getElem? (i := 28) (by decide +kernel)
theorem se_yX9_findRests : Cond.selects RX9 yX9_findRests yX9_findRests ∈ lw_tbl := List.mem_of_getElem? (i := 29) (by decide +kernel)
theorem se_yX9_lossOf : Cond.selects RX9 yX9_lossOf yX9_lossOf ∈ lw_tbl := List.mem_of_getElem? (i := 30) (by decide +kernel)
theorem ini_RL : Cond.initialized RL ∈ lw_tbl := List.mem_of_getElem? (i := 31) (by decide +kernel)
theorem ini_RX8 : Cond.initialized RX8 ∈ lw_tbl := List.mem_of_getElem? (i := 32) (by decide +kernel)
theorem ini_RX2 : Cond.initialized RX2 ∈ lw_tbl := List.mem_of_getElem? (i := 33) (by decide +kernel)
theorem ini_RX1 : Cond.initialized RX1 ∈ lw_tbl := List.mem_of_getElem? (i := 34) (by decide +kernel)
theorem ini_RX7 : Cond.initialized RX7 ∈ lw_tbl := List.mem_of_getElem? (i := 35) (by decide +kernel)
theorem ini_RX0 : Cond.initialized RX0 ∈ lw_tbl := List.mem_of_getElem? (i := 36) (by decide +kernel)
theorem ini_RX5 : Cond.initialized RX5 ∈ lw_tbl := List.mem_of_getElem? (i := 37) (by decide +kernel)
theorem ini_RX4 : Cond.initialized RX4 ∈ lw_tbl := List.mem_of_getElem? (i := 38) (by decide +kernel)
theorem ini_RX3 : Cond.initialized RX3 ∈ lw_tbl := List.mem_of_getElem? (i := 39) (by decide +kernel)
theorem ini_RX6 : Cond.initialized RX6 ∈ lw_tbl := List.mem_of_getElem? (i := 40) (by decide +kernel)
theorem ini_RX9 : Cond.initialized RX9 ∈ lw_tbl := List.mem_of_getElem? (i := 41) (by decide +kernel)
theorem ini_RJ9 : Cond.initialized RJ9 ∈ lw_tbl := List.mem_of_getElem? (i := 42) (by decide +kernel)
theorem ini_RJ6 : Cond.initialized RJ6 ∈ lw_tbl := List.mem_of_getElem? (i := 43) (by decide +kernel)
theorem cl_RL_7 : Cond.classLink RL 7 RX8 ∈ lw_tbl := List.mem_of_getElem? (i := 44) (by decide +kernel)
theorem ins_RX8 : Cond.instantiable RX8 10 ∈ lw_tbl := List.mem_of_getElem? (i := 45) (by decide +kernel)
theorem ml_RL_9 : Cond.methodLink RL 9 yX8_init ∈ lw_tbl := List.mem_of_getElem? (i := 46) (by decide +kernel)
theorem im_yX8_init : Cond.instanceMethod yX8_init ∈ lw_tbl := List.mem_of_getElem? (i := 47) (by decide +kernel)
theorem cd_yX8_init : Cond.code yX8_init cX8_init 1 none ∈ lw_tbl := List.mem_of_getElem? (i := 48) (by decide +kernel)
theorem ml_RX8_1 : Cond.methodLink RX8 1 objectInit ∈ lw_tbl := List.mem_of_getElem? (i := 49) (by decide +kernel)
theorem im_objectInit : Cond.instanceMethod objectInit ∈ lw_tbl := List.mem_of_getElem? (i := 50) (by decide +kernel)
theorem cd_objectInit : Cond.code objectInit ⟨#[0xb1]⟩ 1 none ∈ lw_tbl := List.mem_of_getElem? (i := 51) (by decide +kernel)
theorem cl_RX8_7 : Cond.classLink RX8 7 RX2 ∈ lw_tbl := List.mem_of_getElem? (i := 52) (by decide +kernel)
theorem ins_RX2 : Cond.instantiable RX2 2 ∈ lw_tbl := List.mem_of_getElem? (i := 53) (by decide +kernel)
theorem im_yX2_init : Cond.instanceMethod yX2_init ∈ lw_tbl := List.mem_of_getElem? (i := 55) (by decide +kernel)
theorem cd_yX2_init : Cond.code yX2_init cX2_init 1 none ∈ lw_tbl := List.mem_of_getElem? (i := 56) (by decide +kernel)
theorem ml_RX2_3 : Cond.methodLink RX2 3 objectInit ∈ lw_tbl := List.mem_of_getElem? (i := 57) (by decide +kernel)
theorem fl_RX2_9 : Cond.fieldLink RX2 9 "MustardTreaty$Script" "bytes" "[I" ∈ lw_tbl := List.mem_of_getElem? (i := 58) (by decide +kernel)
theorem fl_RX2_15 : Cond.fieldLink RX2 15 "MustardTreaty$Script" "length" "I" ∈ lw_tbl := List.mem_of_getElem? (i := 59) (by decide +kernel)
theorem fl_RX8_70 : Cond.fieldLink RX8 70 "MustardTreaty$Script" "length" "I" ∈ lw_tbl := List.mem_of_getElem? (i := 60) (by decide +kernel)
theorem ac_JvmClassFileFieldTypeint : Cond.arrayClass .int ∈ lw_tbl := List.mem_of_getElem? (i := 66) (by decide +kernel)
theorem cl_RX8_16 : Cond.classLink RX8 16 RX1 ∈ lw_tbl := List.mem_of_getElem? (i := 67) (by decide +kernel)
theorem ins_RX1 : Cond.instantiable RX1 10 ∈ lw_tbl := List.mem_of_getElem? (i := 68) (by decide +kernel)
theorem im_yX1_init : Cond.instanceMethod yX1_init ∈ lw_tbl := List.mem_of_getElem? (i := 70) (by decide +kernel)
theorem cd_yX1_init : Cond.code yX1_init cX1_init 1 none ∈ lw_tbl := List.mem_of_getElem? (i := 71) (by decide +kernel)
theorem ml_RX1_3 : Cond.methodLink RX1 3 objectInit ∈ lw_tbl := List.mem_of_getElem? (i := 72) (by decide +kernel)
theorem fl_RX1_30 : Cond.fieldLink RX1 30 "MustardTreaty$Rules" "heatAtFirst" "I" ∈ lw_tbl := List.mem_of_getElem? (i := 73) (by decide +kernel)
theorem fl_RX7_19 : Cond.fieldLink RX7 19 "MustardTreaty$Rules" "heatAtFirst" "I" ∈ lw_tbl := List.mem_of_getElem? (i := 74) (by decide +kernel)
theorem fl_RX1_34 : Cond.fieldLink RX1 34 "MustardTreaty$Rules" "storeAtFirst" "I" ∈ lw_tbl := List.mem_of_getElem? (i := 75) (by decide +kernel)
theorem fl_RX7_28 : Cond.fieldLink RX7 28 "MustardTreaty$Rules" "storeAtFirst" "I" ∈ lw_tbl := List.mem_of_getElem? (i := 76) (by decide +kernel)
theorem fl_RX1_37 : Cond.fieldLink RX1 37 "MustardTreaty$Rules" "envoys" "I" ∈ lw_tbl := List.mem_of_getElem? (i := 77) (by decide +kernel)
theorem fl_RX7_34 : Cond.fieldLink RX7 34 "MustardTreaty$Rules" "envoys" "I" ∈ lw_tbl := List.mem_of_getElem? (i := 78) (by decide +kernel)
theorem fl_RX8_92 : Cond.fieldLink RX8 92 "MustardTreaty$Rules" "envoys" "I" ∈ lw_tbl := List.mem_of_getElem? (i := 79) (by decide +kernel)
theorem fl_RX1_40 : Cond.fieldLink RX1 40 "MustardTreaty$Rules" "clauses" "I" ∈ lw_tbl := List.mem_of_getElem? (i := 80) (by decide +kernel)
theorem fl_RX3_54 : Cond.fieldLink RX3 54 "MustardTreaty$Rules" "clauses" "I" ∈ lw_tbl := List.mem_of_getElem? (i := 81) (by decide +kernel)
theorem fl_RX8_95 : Cond.fieldLink RX8 95 "MustardTreaty$Rules" "clauses" "I" ∈ lw_tbl := List.mem_of_getElem? (i := 82) (by decide +kernel)
theorem fl_RX7_72 : Cond.fieldLink RX7 72 "MustardTreaty$Rules" "clauses" "I" ∈ lw_tbl := List.mem_of_getElem? (i := 83) (by decide +kernel)
theorem fl_RX1_9 : Cond.fieldLink RX1 9 "MustardTreaty$Rules" "palate" "[I" ∈ lw_tbl := List.mem_of_getElem? (i := 84) (by decide +kernel)
theorem fl_RX8_124 : Cond.fieldLink RX8 124 "MustardTreaty$Rules" "palate" "[I" ∈ lw_tbl := List.mem_of_getElem? (i := 85) (by decide +kernel)
theorem fl_RX1_15 : Cond.fieldLink RX1 15 "MustardTreaty$Rules" "wits" "[I" ∈ lw_tbl := List.mem_of_getElem? (i := 86) (by decide +kernel)
theorem fl_RX8_128 : Cond.fieldLink RX8 128 "MustardTreaty$Rules" "wits" "[I" ∈ lw_tbl := List.mem_of_getElem? (i := 87) (by decide +kernel)
theorem fl_RX1_18 : Cond.fieldLink RX1 18 "MustardTreaty$Rules" "kind" "[I" ∈ lw_tbl := List.mem_of_getElem? (i := 88) (by decide +kernel)
theorem fl_RX8_131 : Cond.fieldLink RX8 131 "MustardTreaty$Rules" "kind" "[I" ∈ lw_tbl := List.mem_of_getElem? (i := 89) (by decide +kernel)
theorem fl_RX1_21 : Cond.fieldLink RX1 21 "MustardTreaty$Rules" "words" "[I" ∈ lw_tbl := List.mem_of_getElem? (i := 90) (by decide +kernel)
theorem fl_RX7_65 : Cond.fieldLink RX7 65 "MustardTreaty$Rules" "words" "[I" ∈ lw_tbl := List.mem_of_getElem? (i := 91) (by decide +kernel)
theorem fl_RX8_147 : Cond.fieldLink RX8 147 "MustardTreaty$Rules" "words" "[I" ∈ lw_tbl := List.mem_of_getElem? (i := 92) (by decide +kernel)
theorem fl_RX1_24 : Cond.fieldLink RX1 24 "MustardTreaty$Rules" "heatNeeded" "[I" ∈ lw_tbl := List.mem_of_getElem? (i := 93) (by decide +kernel)
theorem fl_RX7_62 : Cond.fieldLink RX7 62 "MustardTreaty$Rules" "heatNeeded" "[I" ∈ lw_tbl := List.mem_of_getElem? (i := 94) (by decide +kernel)
theorem fl_RX8_150 : Cond.fieldLink RX8 150 "MustardTreaty$Rules" "heatNeeded" "[I" ∈ lw_tbl := List.mem_of_getElem? (i := 95) (by decide +kernel)
theorem fl_RX1_27 : Cond.fieldLink RX1 27 "MustardTreaty$Rules" "owner" "[I" ∈ lw_tbl := List.mem_of_getElem? (i := 96) (by decide +kernel)
theorem fl_RX7_56 : Cond.fieldLink RX7 56 "MustardTreaty$Rules" "owner" "[I" ∈ lw_tbl := List.mem_of_getElem? (i := 97) (by decide +kernel)
theorem fl_RX8_153 : Cond.fieldLink RX8 153 "MustardTreaty$Rules" "owner" "[I" ∈ lw_tbl := List.mem_of_getElem? (i := 98) (by decide +kernel)
theorem cl_RX8_23 : Cond.classLink RX8 23 RX7 ∈ lw_tbl := List.mem_of_getElem? (i := 120) (by decide +kernel)
theorem ins_RX7 : Cond.instantiable RX7 8 ∈ lw_tbl := List.mem_of_getElem? (i := 121) (by decide +kernel)
theorem ml_RX8_25 : Cond.methodLink RX8 25 yX7_init ∈ lw_tbl := List.mem_of_getElem? (i := 122) (by decide +kernel)
theorem im_yX7_init : Cond.instanceMethod yX7_init ∈ lw_tbl := List.mem_of_getElem? (i := 123) (by decide +kernel)
theorem cd_yX7_init : Cond.code yX7_init cX7_init 2 none ∈ lw_tbl := List.mem_of_getElem? (i := 124) (by decide +kernel)
theorem ml_RX7_3 : Cond.methodLink RX7 3 objectInit ∈ lw_tbl := List.mem_of_getElem? (i := 125) (by decide +kernel)
theorem fl_RX7_15 : Cond.fieldLink RX7 15 "MustardTreaty$Table" "rules" "LMustardTreaty$Rules;" ∈ lw_tbl := List.mem_of_getElem? (i := 126) (by decide +kernel)
theorem fl_RX7_25 : Cond.fieldLink RX7 25 "MustardTreaty$Table" "heat" "I" ∈ lw_tbl := List.mem_of_getElem? (i := 127) (by decide +kernel)
theorem fl_RX8_98 : Cond.fieldLink RX8 98 "MustardTreaty$Table" "heat" "I" ∈ lw_tbl := List.mem_of_getElem? (i := 128) (by decide +kernel)
theorem fl_RX7_31 : Cond.fieldLink RX7 31 "MustardTreaty$Table" "store" "I" ∈ lw_tbl := List.mem_of_getElem? (i := 129) (by decide +kernel)
theorem fl_RX8_101 : Cond.fieldLink RX8 101 "MustardTreaty$Table" "store" "I" ∈ lw_tbl := List.mem_of_getElem? (i := 130) (by decide +kernel)
theorem fl_RX7_37 : Cond.fieldLink RX7 37 "MustardTreaty$Table" "eating" "I" ∈ lw_tbl := List.mem_of_getElem? (i := 131) (by decide +kernel)
theorem fl_RX8_104 : Cond.fieldLink RX8 104 "MustardTreaty$Table" "eating" "I" ∈ lw_tbl := List.mem_of_getElem? (i := 132) (by decide +kernel)
theorem fl_RX7_40 : Cond.fieldLink RX7 40 "MustardTreaty$Table" "fed" "I" ∈ lw_tbl := List.mem_of_getElem? (i := 133) (by decide +kernel)
theorem fl_RX7_43 : Cond.fieldLink RX7 43 "MustardTreaty$Table" "bound" "I" ∈ lw_tbl := List.mem_of_getElem? (i := 134) (by decide +kernel)
theorem fl_RX8_107 : Cond.fieldLink RX8 107 "MustardTreaty$Table" "bound" "I" ∈ lw_tbl := List.mem_of_getElem? (i := 135) (by decide +kernel)
theorem fl_RX7_46 : Cond.fieldLink RX7 46 "MustardTreaty$Table" "bites" "I" ∈ lw_tbl := List.mem_of_getElem? (i := 136) (by decide +kernel)
theorem fl_RX8_110 : Cond.fieldLink RX8 110 "MustardTreaty$Table" "bites" "I" ∈ lw_tbl := List.mem_of_getElem? (i := 137) (by decide +kernel)
theorem fl_RX7_9 : Cond.fieldLink RX7 9 "MustardTreaty$Table" "tears" "[I" ∈ lw_tbl := List.mem_of_getElem? (i := 138) (by decide +kernel)
theorem fl_RX8_134 : Cond.fieldLink RX8 134 "MustardTreaty$Table" "tears" "[I" ∈ lw_tbl := List.mem_of_getElem? (i := 139) (by decide +kernel)
theorem cl_RX8_35 : Cond.classLink RX8 35 RX0 ∈ lw_tbl := List.mem_of_getElem? (i := 157) (by decide +kernel)
theorem ins_RX0 : Cond.instantiable RX0 3 ∈ lw_tbl := List.mem_of_getElem? (i := 158) (by decide +kernel)
theorem ml_RX8_37 : Cond.methodLink RX8 37 yX0_init ∈ lw_tbl := List.mem_of_getElem? (i := 159) (by decide +kernel)
theorem im_yX0_init : Cond.instanceMethod yX0_init ∈ lw_tbl := List.mem_of_getElem? (i := 160) (by decide +kernel)
theorem cd_yX0_init : Cond.code yX0_init cX0_init 3 none ∈ lw_tbl := List.mem_of_getElem? (i := 161) (by decide +kernel)
theorem ml_RX0_3 : Cond.methodLink RX0 3 objectInit ∈ lw_tbl := List.mem_of_getElem? (i := 162) (by decide +kernel)
theorem cl_RX0_9 : Cond.classLink RX0 9 RX7 ∈ lw_tbl := List.mem_of_getElem? (i := 163) (by decide +kernel)
theorem ml_RX0_17 : Cond.methodLink RX0 17 yX7_init ∈ lw_tbl := List.mem_of_getElem? (i := 165) (by decide +kernel)
theorem fl_RX0_11 : Cond.fieldLink RX0 11 "MustardTreaty$Acts" "before" "[LMustardTreaty$Table;" ∈ lw_tbl := List.mem_of_getElem? (i := 166) (by decide +kernel)
theorem fl_RX0_20 : Cond.fieldLink RX0 20 "MustardTreaty$Acts" "oldest" "I" ∈ lw_tbl := List.mem_of_getElem? (i := 167) (by decide +kernel)
theorem fl_RX0_24 : Cond.fieldLink RX0 24 "MustardTreaty$Acts" "count" "I" ∈ lw_tbl := List.mem_of_getElem? (i := 168) (by decide +kernel)
theorem fl_RX8_116 : Cond.fieldLink RX8 116 "MustardTreaty$Acts" "count" "I" ∈ lw_tbl := List.mem_of_getElem? (i := 169) (by decide +kernel)
theorem cl_RX8_42 : Cond.classLink RX8 42 RX5 ∈ lw_tbl := List.mem_of_getElem? (i := 177) (by decide +kernel)
theorem ins_RX5 : Cond.instantiable RX5 2 ∈ lw_tbl := List.mem_of_getElem? (i := 178) (by decide +kernel)
theorem ml_RX8_44 : Cond.methodLink RX8 44 yX5_init ∈ lw_tbl := List.mem_of_getElem? (i := 179) (by decide +kernel)
theorem im_yX5_init : Cond.instanceMethod yX5_init ∈ lw_tbl := List.mem_of_getElem? (i := 180) (by decide +kernel)
theorem cd_yX5_init : Cond.code yX5_init cX5_init 3 none ∈ lw_tbl := List.mem_of_getElem? (i := 181) (by decide +kernel)
theorem ml_RX5_3 : Cond.methodLink RX5 3 objectInit ∈ lw_tbl := List.mem_of_getElem? (i := 182) (by decide +kernel)
theorem cl_RX5_9 : Cond.classLink RX5 9 RX7 ∈ lw_tbl := List.mem_of_getElem? (i := 183) (by decide +kernel)
theorem ml_RX5_21 : Cond.methodLink RX5 21 yX7_init ∈ lw_tbl := List.mem_of_getElem? (i := 184) (by decide +kernel)
theorem fl_RX5_11 : Cond.fieldLink RX5 11 "MustardTreaty$Slots" "tables" "[LMustardTreaty$Table;" ∈ lw_tbl := List.mem_of_getElem? (i := 185) (by decide +kernel)
theorem fl_RX8_292 : Cond.fieldLink RX8 292 "MustardTreaty$Slots" "tables" "[LMustardTreaty$Table;" ∈ lw_tbl := List.mem_of_getElem? (i := 186) (by decide +kernel)
theorem fl_RX5_17 : Cond.fieldLink RX5 17 "MustardTreaty$Slots" "used" "[Z" ∈ lw_tbl := List.mem_of_getElem? (i := 187) (by decide +kernel)
theorem fl_RX8_288 : Cond.fieldLink RX8 288 "MustardTreaty$Slots" "used" "[Z" ∈ lw_tbl := List.mem_of_getElem? (i := 188) (by decide +kernel)
theorem ac_JvmClassFileFieldTypeboolean : Cond.arrayClass .boolean ∈ lw_tbl := List.mem_of_getElem? (i := 194) (by decide +kernel)
theorem cl_RX8_49 : Cond.classLink RX8 49 RX4 ∈ lw_tbl := List.mem_of_getElem? (i := 195) (by decide +kernel)
theorem ins_RX4 : Cond.instantiable RX4 4 ∈ lw_tbl := List.mem_of_getElem? (i := 196) (by decide +kernel)
theorem im_yX4_init : Cond.instanceMethod yX4_init ∈ lw_tbl := List.mem_of_getElem? (i := 198) (by decide +kernel)
theorem cd_yX4_init : Cond.code yX4_init cX4_init 1 none ∈ lw_tbl := List.mem_of_getElem? (i := 199) (by decide +kernel)
theorem ml_RX4_3 : Cond.methodLink RX4 3 objectInit ∈ lw_tbl := List.mem_of_getElem? (i := 200) (by decide +kernel)
theorem fl_RX4_9 : Cond.fieldLink RX4 9 "MustardTreaty$Sights" "kinds" "[I" ∈ lw_tbl := List.mem_of_getElem? (i := 201) (by decide +kernel)
theorem fl_RX4_15 : Cond.fieldLink RX4 15 "MustardTreaty$Sights" "heats" "[I" ∈ lw_tbl := List.mem_of_getElem? (i := 202) (by decide +kernel)
theorem fl_RX4_18 : Cond.fieldLink RX4 18 "MustardTreaty$Sights" "tears" "[I" ∈ lw_tbl := List.mem_of_getElem? (i := 203) (by decide +kernel)
theorem fl_RX4_21 : Cond.fieldLink RX4 21 "MustardTreaty$Sights" "count" "I" ∈ lw_tbl := List.mem_of_getElem? (i := 204) (by decide +kernel)
theorem fl_RX8_119 : Cond.fieldLink RX8 119 "MustardTreaty$Sights" "count" "I" ∈ lw_tbl := List.mem_of_getElem? (i := 205) (by decide +kernel)
theorem cl_RX8_56 : Cond.classLink RX8 56 RX3 ∈ lw_tbl := List.mem_of_getElem? (i := 215) (by decide +kernel)
theorem ins_RX3 : Cond.instantiable RX3 6 ∈ lw_tbl := List.mem_of_getElem? (i := 216) (by decide +kernel)
theorem ml_RX8_58 : Cond.methodLink RX8 58 yX3_init ∈ lw_tbl := List.mem_of_getElem? (i := 217) (by decide +kernel)
theorem im_yX3_init : Cond.instanceMethod yX3_init ∈ lw_tbl := List.mem_of_getElem? (i := 218) (by decide +kernel)
theorem cd_yX3_init : Cond.code yX3_init cX3_init 3 none ∈ lw_tbl := List.mem_of_getElem? (i := 219) (by decide +kernel)
theorem ml_RX3_3 : Cond.methodLink RX3 3 objectInit ∈ lw_tbl := List.mem_of_getElem? (i := 220) (by decide +kernel)
theorem cl_RX3_11 : Cond.classLink RX3 11 RX7 ∈ lw_tbl := List.mem_of_getElem? (i := 221) (by decide +kernel)
theorem ml_RX3_21 : Cond.methodLink RX3 21 yX7_init ∈ lw_tbl := List.mem_of_getElem? (i := 222) (by decide +kernel)
theorem fl_RX3_17 : Cond.fieldLink RX3 17 "MustardTreaty$Search" "rules" "LMustardTreaty$Rules;" ∈ lw_tbl := List.mem_of_getElem? (i := 223) (by decide +kernel)
theorem fl_RX3_13 : Cond.fieldLink RX3 13 "MustardTreaty$Search" "behind" "[LMustardTreaty$Table;" ∈ lw_tbl := List.mem_of_getElem? (i := 224) (by decide +kernel)
theorem fl_RX3_30 : Cond.fieldLink RX3 30 "MustardTreaty$Search" "turns" "I" ∈ lw_tbl := List.mem_of_getElem? (i := 225) (by decide +kernel)
theorem fl_RX3_34 : Cond.fieldLink RX3 34 "MustardTreaty$Search" "allowed" "I" ∈ lw_tbl := List.mem_of_getElem? (i := 226) (by decide +kernel)
theorem fl_RX3_37 : Cond.fieldLink RX3 37 "MustardTreaty$Search" "bestWorth" "I" ∈ lw_tbl := List.mem_of_getElem? (i := 227) (by decide +kernel)
theorem fl_RX3_40 : Cond.fieldLink RX3 40 "MustardTreaty$Search" "bestRow" "I" ∈ lw_tbl := List.mem_of_getElem? (i := 228) (by decide +kernel)
theorem fl_RX8_195 : Cond.fieldLink RX8 195 "MustardTreaty$Search" "bestRow" "I" ∈ lw_tbl := List.mem_of_getElem? (i := 229) (by decide +kernel)
theorem cl_RX8_63 : Cond.classLink RX8 63 RX6 ∈ lw_tbl := List.mem_of_getElem? (i := 243) (by decide +kernel)
theorem ins_RX6 : Cond.instantiable RX6 3 ∈ lw_tbl := List.mem_of_getElem? (i := 244) (by decide +kernel)
theorem ml_RX8_65 : Cond.methodLink RX8 65 yX6_init ∈ lw_tbl := List.mem_of_getElem? (i := 245) (by decide +kernel)
theorem im_yX6_init : Cond.instanceMethod yX6_init ∈ lw_tbl := List.mem_of_getElem? (i := 246) (by decide +kernel)
theorem cd_yX6_init : Cond.code yX6_init cX6_init 2 none ∈ lw_tbl := List.mem_of_getElem? (i := 247) (by decide +kernel)
theorem ml_RX6_3 : Cond.methodLink RX6 3 objectInit ∈ lw_tbl := List.mem_of_getElem? (i := 248) (by decide +kernel)
theorem fl_RX6_9 : Cond.fieldLink RX6 9 "MustardTreaty$Stops" "rules" "LMustardTreaty$Rules;" ∈ lw_tbl := List.mem_of_getElem? (i := 249) (by decide +kernel)
theorem fl_RX6_15 : Cond.fieldLink RX6 15 "MustardTreaty$Stops" "count" "I" ∈ lw_tbl := List.mem_of_getElem? (i := 250) (by decide +kernel)
theorem fl_RX8_254 : Cond.fieldLink RX8 254 "MustardTreaty$Stops" "count" "I" ∈ lw_tbl := List.mem_of_getElem? (i := 251) (by decide +kernel)
theorem fl_RX6_19 : Cond.fieldLink RX6 19 "MustardTreaty$Stops" "first" "I" ∈ lw_tbl := List.mem_of_getElem? (i := 252) (by decide +kernel)
theorem fl_RX8_255 : Cond.fieldLink RX8 255 "MustardTreaty$Stops" "first" "I" ∈ lw_tbl := List.mem_of_getElem? (i := 253) (by decide +kernel)
theorem fl_RX8_10 : Cond.fieldLink RX8 10 "MustardTreaty" "script" "LMustardTreaty$Script;" ∈ lw_tbl := List.mem_of_getElem? (i := 261) (by decide +kernel)
theorem fl_RX8_19 : Cond.fieldLink RX8 19 "MustardTreaty" "rules" "LMustardTreaty$Rules;" ∈ lw_tbl := List.mem_of_getElem? (i := 262) (by decide +kernel)
theorem fl_RX8_28 : Cond.fieldLink RX8 28 "MustardTreaty" "table" "LMustardTreaty$Table;" ∈ lw_tbl := List.mem_of_getElem? (i := 263) (by decide +kernel)
theorem fl_RX8_32 : Cond.fieldLink RX8 32 "MustardTreaty" "trial" "LMustardTreaty$Table;" ∈ lw_tbl := List.mem_of_getElem? (i := 264) (by decide +kernel)
theorem fl_RX8_38 : Cond.fieldLink RX8 38 "MustardTreaty" "acts" "LMustardTreaty$Acts;" ∈ lw_tbl := List.mem_of_getElem? (i := 265) (by decide +kernel)
theorem fl_RX8_45 : Cond.fieldLink RX8 45 "MustardTreaty" "slots" "LMustardTreaty$Slots;" ∈ lw_tbl := List.mem_of_getElem? (i := 266) (by decide +kernel)
theorem fl_RX8_52 : Cond.fieldLink RX8 52 "MustardTreaty" "sights" "LMustardTreaty$Sights;" ∈ lw_tbl := List.mem_of_getElem? (i := 267) (by decide +kernel)
theorem fl_RX8_59 : Cond.fieldLink RX8 59 "MustardTreaty" "search" "LMustardTreaty$Search;" ∈ lw_tbl := List.mem_of_getElem? (i := 268) (by decide +kernel)
theorem fl_RX8_66 : Cond.fieldLink RX8 66 "MustardTreaty" "stops" "LMustardTreaty$Stops;" ∈ lw_tbl := List.mem_of_getElem? (i := 269) (by decide +kernel)
theorem fl_RX8_268 : Cond.fieldLink RX8 268 "MustardTreaty" "chanceSeed" "J" ∈ lw_tbl := List.mem_of_getElem? (i := 270) (by decide +kernel)
theorem ml_RL_13 : Cond.methodLink RL 13 yX8_write ∈ lw_tbl := List.mem_of_getElem? (i := 292) (by decide +kernel)
theorem im_yX8_write : Cond.instanceMethod yX8_write ∈ lw_tbl := List.mem_of_getElem? (i := 293) (by decide +kernel)
theorem se_yX8_write : Cond.selects RX8 yX8_write yX8_write ∈ lw_tbl := List.mem_of_getElem? (i := 294) (by decide +kernel)
theorem cd_yX8_write : Cond.code yX8_write cX8_write 2 (some .int) ∈ lw_tbl := List.mem_of_getElem? (i := 295) (by decide +kernel)
theorem ml_RX8_74 : Cond.methodLink RX8 74 yX2_append ∈ lw_tbl := List.mem_of_getElem? (i := 296) (by decide +kernel)
theorem im_yX2_append : Cond.instanceMethod yX2_append ∈ lw_tbl := List.mem_of_getElem? (i := 297) (by decide +kernel)
theorem se_yX2_append : Cond.selects RX2 yX2_append yX2_append ∈ lw_tbl := List.mem_of_getElem? (i := 298) (by decide +kernel)
theorem cd_yX2_append : Cond.code yX2_append cX2_append 2 none ∈ lw_tbl := List.mem_of_getElem? (i := 299) (by decide +kernel)
theorem ml_RL_18 : Cond.methodLink RL 18 yX8_wipe ∈ lw_tbl := List.mem_of_getElem? (i := 300) (by decide +kernel)
theorem im_yX8_wipe : Cond.instanceMethod yX8_wipe ∈ lw_tbl := List.mem_of_getElem? (i := 301) (by decide +kernel)
theorem se_yX8_wipe : Cond.selects RX8 yX8_wipe yX8_wipe ∈ lw_tbl := List.mem_of_getElem? (i := 302) (by decide +kernel)
theorem cd_yX8_wipe : Cond.code yX8_wipe cX8_wipe 2 (some .int) ∈ lw_tbl := List.mem_of_getElem? (i := 303) (by decide +kernel)
theorem ml_RL_23 : Cond.methodLink RL 23 yX8_fault ∈ lw_tbl := List.mem_of_getElem? (i := 304) (by decide +kernel)
theorem im_yX8_fault : Cond.instanceMethod yX8_fault ∈ lw_tbl := List.mem_of_getElem? (i := 305) (by decide +kernel)
theorem se_yX8_fault : Cond.selects RX8 yX8_fault yX8_fault ∈ lw_tbl := List.mem_of_getElem? (i := 306) (by decide +kernel)
theorem cd_yX8_fault : Cond.code yX8_fault cX8_fault 1 (some .int) ∈ lw_tbl := List.mem_of_getElem? (i := 307) (by decide +kernel)
theorem ml_RX8_78 : Cond.methodLink RX8 78 yX2_firstFault ∈ lw_tbl := List.mem_of_getElem? (i := 308) (by decide +kernel)
theorem im_yX2_firstFault : Cond.instanceMethod yX2_firstFault ∈ lw_tbl := List.mem_of_getElem? (i := 309) (by decide +kernel)
theorem se_yX2_firstFault : Cond.selects RX2 yX2_firstFault yX2_firstFault ∈ lw_tbl := List.mem_of_getElem? (i := 310) (by decide +kernel)
theorem cd_yX2_firstFault : Cond.code yX2_firstFault cX2_firstFault 4 (some .int) ∈ lw_tbl := List.mem_of_getElem? (i := 311) (by decide +kernel)
theorem ml_RX2_19 : Cond.methodLink RX2 19 yX2_fits ∈ lw_tbl := List.mem_of_getElem? (i := 312) (by decide +kernel)
theorem im_yX2_fits : Cond.instanceMethod yX2_fits ∈ lw_tbl := List.mem_of_getElem? (i := 314) (by decide +kernel)
theorem cd_yX2_fits : Cond.code yX2_fits cX2_fits 6 (some .boolean) ∈ lw_tbl := List.mem_of_getElem? (i := 315) (by decide +kernel)
theorem ml_RX2_27 : Cond.methodLink RX2 27 yX2_isFigure ∈ lw_tbl := List.mem_of_getElem? (i := 316) (by decide +kernel)
theorem st_yX2_isFigure : Cond.static yX2_isFigure ∈ lw_tbl := List.mem_of_getElem? (i := 317) (by decide +kernel)
theorem cd_yX2_isFigure : Cond.code yX2_isFigure cX2_isFigure 3 (some .boolean) ∈ lw_tbl := List.mem_of_getElem? (i := 318) (by decide +kernel)
theorem ml_RX2_30 : Cond.methodLink RX2 30 yX2_fitsEnvoy ∈ lw_tbl := List.mem_of_getElem? (i := 319) (by decide +kernel)
theorem st_yX2_fitsEnvoy : Cond.static yX2_fitsEnvoy ∈ lw_tbl := List.mem_of_getElem? (i := 320) (by decide +kernel)
theorem cd_yX2_fitsEnvoy : Cond.code yX2_fitsEnvoy cX2_fitsEnvoy 2 (some .boolean) ∈ lw_tbl := List.mem_of_getElem? (i := 321) (by decide +kernel)
theorem ml_RX2_34 : Cond.methodLink RX2 34 yX2_fitsClause ∈ lw_tbl := List.mem_of_getElem? (i := 322) (by decide +kernel)
theorem st_yX2_fitsClause : Cond.static yX2_fitsClause ∈ lw_tbl := List.mem_of_getElem? (i := 323) (by decide +kernel)
theorem cd_yX2_fitsClause : Cond.code yX2_fitsClause cX2_fitsClause 3 (some .boolean) ∈ lw_tbl := List.mem_of_getElem? (i := 324) (by decide +kernel)
theorem ml_RX2_23 : Cond.methodLink RX2 23 yX2_isAtEndOfPart ∈ lw_tbl := List.mem_of_getElem? (i := 325) (by decide +kernel)
theorem st_yX2_isAtEndOfPart : Cond.static yX2_isAtEndOfPart ∈ lw_tbl := List.mem_of_getElem? (i := 326) (by decide +kernel)
theorem cd_yX2_isAtEndOfPart : Cond.code yX2_isAtEndOfPart cX2_isAtEndOfPart 1 (some .boolean) ∈ lw_tbl := List.mem_of_getElem? (i := 327) (by decide +kernel)
theorem ml_RL_27 : Cond.methodLink RL 27 yX8_talk ∈ lw_tbl := List.mem_of_getElem? (i := 328) (by decide +kernel)
theorem im_yX8_talk : Cond.instanceMethod yX8_talk ∈ lw_tbl := List.mem_of_getElem? (i := 329) (by decide +kernel)
theorem se_yX8_talk : Cond.selects RX8 yX8_talk yX8_talk ∈ lw_tbl := List.mem_of_getElem? (i := 330) (by decide +kernel)
theorem cd_yX8_talk : Cond.code yX8_talk cX8_talk 1 (some .int) ∈ lw_tbl := List.mem_of_getElem? (i := 331) (by decide +kernel)
theorem ml_RX8_82 : Cond.methodLink RX8 82 yX2_tellInto ∈ lw_tbl := List.mem_of_getElem? (i := 332) (by decide +kernel)
theorem im_yX2_tellInto : Cond.instanceMethod yX2_tellInto ∈ lw_tbl := List.mem_of_getElem? (i := 333) (by decide +kernel)
theorem se_yX2_tellInto : Cond.selects RX2 yX2_tellInto yX2_tellInto ∈ lw_tbl := List.mem_of_getElem? (i := 334) (by decide +kernel)
theorem cd_yX2_tellInto : Cond.code yX2_tellInto cX2_tellInto 3 none ∈ lw_tbl := List.mem_of_getElem? (i := 335) (by decide +kernel)
theorem ml_RX2_37 : Cond.methodLink RX2 37 yX2_figure ∈ lw_tbl := List.mem_of_getElem? (i := 336) (by decide +kernel)
theorem im_yX2_figure : Cond.instanceMethod yX2_figure ∈ lw_tbl := List.mem_of_getElem? (i := 338) (by decide +kernel)
theorem cd_yX2_figure : Cond.code yX2_figure cX2_figure 2 (some .int) ∈ lw_tbl := List.mem_of_getElem? (i := 339) (by decide +kernel)
theorem ml_RX2_41 : Cond.methodLink RX2 41 yX1_begin ∈ lw_tbl := List.mem_of_getElem? (i := 340) (by decide +kernel)
theorem im_yX1_begin : Cond.instanceMethod yX1_begin ∈ lw_tbl := List.mem_of_getElem? (i := 341) (by decide +kernel)
theorem se_yX1_begin : Cond.selects RX1 yX1_begin yX1_begin ∈ lw_tbl := List.mem_of_getElem? (i := 342) (by decide +kernel)
theorem cd_yX1_begin : Cond.code yX1_begin cX1_begin 3 none ∈ lw_tbl := List.mem_of_getElem? (i := 343) (by decide +kernel)
theorem ml_RX2_47 : Cond.methodLink RX2 47 yX1_addEnvoy ∈ lw_tbl := List.mem_of_getElem? (i := 344) (by decide +kernel)
theorem im_yX1_addEnvoy : Cond.instanceMethod yX1_addEnvoy ∈ lw_tbl := List.mem_of_getElem? (i := 345) (by decide +kernel)
theorem se_yX1_addEnvoy : Cond.selects RX1 yX1_addEnvoy yX1_addEnvoy ∈ lw_tbl := List.mem_of_getElem? (i := 346) (by decide +kernel)
theorem cd_yX1_addEnvoy : Cond.code yX1_addEnvoy cX1_addEnvoy 4 none ∈ lw_tbl := List.mem_of_getElem? (i := 347) (by decide +kernel)
theorem ml_RX2_51 : Cond.methodLink RX2 51 yX1_addClause ∈ lw_tbl := List.mem_of_getElem? (i := 348) (by decide +kernel)
theorem im_yX1_addClause : Cond.instanceMethod yX1_addClause ∈ lw_tbl := List.mem_of_getElem? (i := 349) (by decide +kernel)
theorem se_yX1_addClause : Cond.selects RX1 yX1_addClause yX1_addClause ∈ lw_tbl := List.mem_of_getElem? (i := 350) (by decide +kernel)
theorem cd_yX1_addClause : Cond.code yX1_addClause cX1_addClause 4 none ∈ lw_tbl := List.mem_of_getElem? (i := 351) (by decide +kernel)
theorem ml_RX8_85 : Cond.methodLink RX8 85 yX7_layAnew ∈ lw_tbl := List.mem_of_getElem? (i := 352) (by decide +kernel)
theorem im_yX7_layAnew : Cond.instanceMethod yX7_layAnew ∈ lw_tbl := List.mem_of_getElem? (i := 353) (by decide +kernel)
theorem se_yX7_layAnew : Cond.selects RX7 yX7_layAnew yX7_layAnew ∈ lw_tbl := List.mem_of_getElem? (i := 354) (by decide +kernel)
theorem cd_yX7_layAnew : Cond.code yX7_layAnew cX7_layAnew 2 none ∈ lw_tbl := List.mem_of_getElem? (i := 355) (by decide +kernel)
theorem ml_RX8_88 : Cond.methodLink RX8 88 yX0_forgetAll ∈ lw_tbl := List.mem_of_getElem? (i := 356) (by decide +kernel)
theorem im_yX0_forgetAll : Cond.instanceMethod yX0_forgetAll ∈ lw_tbl := List.mem_of_getElem? (i := 357) (by decide +kernel)
theorem se_yX0_forgetAll : Cond.selects RX0 yX0_forgetAll yX0_forgetAll ∈ lw_tbl := List.mem_of_getElem? (i := 358) (by decide +kernel)
theorem cd_yX0_forgetAll : Cond.code yX0_forgetAll cX0_forgetAll 1 none ∈ lw_tbl := List.mem_of_getElem? (i := 359) (by decide +kernel)
theorem ml_RX8_91 : Cond.methodLink RX8 91 yX5_forgetAll ∈ lw_tbl := List.mem_of_getElem? (i := 360) (by decide +kernel)
theorem im_yX5_forgetAll : Cond.instanceMethod yX5_forgetAll ∈ lw_tbl := List.mem_of_getElem? (i := 361) (by decide +kernel)
theorem se_yX5_forgetAll : Cond.selects RX5 yX5_forgetAll yX5_forgetAll ∈ lw_tbl := List.mem_of_getElem? (i := 362) (by decide +kernel)
theorem cd_yX5_forgetAll : Cond.code yX5_forgetAll cX5_forgetAll 2 none ∈ lw_tbl := List.mem_of_getElem? (i := 363) (by decide +kernel)
theorem ml_RL_31 : Cond.methodLink RL 31 yX8_about ∈ lw_tbl := List.mem_of_getElem? (i := 364) (by decide +kernel)
theorem im_yX8_about : Cond.instanceMethod yX8_about ∈ lw_tbl := List.mem_of_getElem? (i := 365) (by decide +kernel)
theorem se_yX8_about : Cond.selects RX8 yX8_about yX8_about ∈ lw_tbl := List.mem_of_getElem? (i := 366) (by decide +kernel)
theorem cd_yX8_about : Cond.code yX8_about cX8_about 2 (some .int) ∈ lw_tbl := List.mem_of_getElem? (i := 367) (by decide +kernel)
theorem ml_RX8_113 : Cond.methodLink RX8 113 yX7_sayable ∈ lw_tbl := List.mem_of_getElem? (i := 368) (by decide +kernel)
theorem im_yX7_sayable : Cond.instanceMethod yX7_sayable ∈ lw_tbl := List.mem_of_getElem? (i := 369) (by decide +kernel)
theorem se_yX7_sayable : Cond.selects RX7 yX7_sayable yX7_sayable ∈ lw_tbl := List.mem_of_getElem? (i := 370) (by decide +kernel)
theorem cd_yX7_sayable : Cond.code yX7_sayable cX7_sayable 3 (some .int) ∈ lw_tbl := List.mem_of_getElem? (i := 371) (by decide +kernel)
theorem ml_RX7_75 : Cond.methodLink RX7 75 yX7_canBeSaid ∈ lw_tbl := List.mem_of_getElem? (i := 372) (by decide +kernel)
theorem im_yX7_canBeSaid : Cond.instanceMethod yX7_canBeSaid ∈ lw_tbl := List.mem_of_getElem? (i := 373) (by decide +kernel)
theorem se_yX7_canBeSaid : Cond.selects RX7 yX7_canBeSaid yX7_canBeSaid ∈ lw_tbl := List.mem_of_getElem? (i := 374) (by decide +kernel)
theorem cd_yX7_canBeSaid : Cond.code yX7_canBeSaid cX7_canBeSaid 2 (some .boolean) ∈ lw_tbl := List.mem_of_getElem? (i := 375) (by decide +kernel)
theorem ml_RX7_49 : Cond.methodLink RX7 49 yX1_hasClause ∈ lw_tbl := List.mem_of_getElem? (i := 376) (by decide +kernel)
theorem im_yX1_hasClause : Cond.instanceMethod yX1_hasClause ∈ lw_tbl := List.mem_of_getElem? (i := 377) (by decide +kernel)
theorem se_yX1_hasClause : Cond.selects RX1 yX1_hasClause yX1_hasClause ∈ lw_tbl := List.mem_of_getElem? (i := 378) (by decide +kernel)
theorem cd_yX1_hasClause : Cond.code yX1_hasClause cX1_hasClause 2 (some .boolean) ∈ lw_tbl := List.mem_of_getElem? (i := 379) (by decide +kernel)
theorem ml_RX7_53 : Cond.methodLink RX7 53 yX7_isBound ∈ lw_tbl := List.mem_of_getElem? (i := 380) (by decide +kernel)
theorem im_yX7_isBound : Cond.instanceMethod yX7_isBound ∈ lw_tbl := List.mem_of_getElem? (i := 381) (by decide +kernel)
theorem se_yX7_isBound : Cond.selects RX7 yX7_isBound yX7_isBound ∈ lw_tbl := List.mem_of_getElem? (i := 382) (by decide +kernel)
theorem cd_yX7_isBound : Cond.code yX7_isBound cX7_isBound 2 (some .boolean) ∈ lw_tbl := List.mem_of_getElem? (i := 383) (by decide +kernel)
theorem ml_RX7_59 : Cond.methodLink RX7 59 yX7_eats ∈ lw_tbl := List.mem_of_getElem? (i := 384) (by decide +kernel)
theorem im_yX7_eats : Cond.instanceMethod yX7_eats ∈ lw_tbl := List.mem_of_getElem? (i := 385) (by decide +kernel)
theorem se_yX7_eats : Cond.selects RX7 yX7_eats yX7_eats ∈ lw_tbl := List.mem_of_getElem? (i := 386) (by decide +kernel)
theorem cd_yX7_eats : Cond.code yX7_eats cX7_eats 2 (some .boolean) ∈ lw_tbl := List.mem_of_getElem? (i := 387) (by decide +kernel)
theorem ml_RX7_68 : Cond.methodLink RX7 68 yX1_wordsAt ∈ lw_tbl := List.mem_of_getElem? (i := 388) (by decide +kernel)
theorem st_yX1_wordsAt : Cond.static yX1_wordsAt ∈ lw_tbl := List.mem_of_getElem? (i := 389) (by decide +kernel)
theorem cd_yX1_wordsAt : Cond.code yX1_wordsAt cX1_wordsAt 1 (some .int) ∈ lw_tbl := List.mem_of_getElem? (i := 390) (by decide +kernel)
theorem ml_RL_35 : Cond.methodLink RL 35 yX8_envoy ∈ lw_tbl := List.mem_of_getElem? (i := 391) (by decide +kernel)
theorem im_yX8_envoy : Cond.instanceMethod yX8_envoy ∈ lw_tbl := List.mem_of_getElem? (i := 392) (by decide +kernel)
theorem se_yX8_envoy : Cond.selects RX8 yX8_envoy yX8_envoy ∈ lw_tbl := List.mem_of_getElem? (i := 393) (by decide +kernel)
theorem cd_yX8_envoy : Cond.code yX8_envoy cX8_envoy 3 (some .int) ∈ lw_tbl := List.mem_of_getElem? (i := 394) (by decide +kernel)
theorem ml_RX8_120 : Cond.methodLink RX8 120 yX1_hasEnvoy ∈ lw_tbl := List.mem_of_getElem? (i := 395) (by decide +kernel)
theorem im_yX1_hasEnvoy : Cond.instanceMethod yX1_hasEnvoy ∈ lw_tbl := List.mem_of_getElem? (i := 396) (by decide +kernel)
theorem se_yX1_hasEnvoy : Cond.selects RX1 yX1_hasEnvoy yX1_hasEnvoy ∈ lw_tbl := List.mem_of_getElem? (i := 397) (by decide +kernel)
theorem cd_yX1_hasEnvoy : Cond.code yX1_hasEnvoy cX1_hasEnvoy 2 (some .boolean) ∈ lw_tbl := List.mem_of_getElem? (i := 398) (by decide +kernel)
theorem ml_RX8_137 : Cond.methodLink RX8 137 yX1_pain ∈ lw_tbl := List.mem_of_getElem? (i := 399) (by decide +kernel)
theorem im_yX1_pain : Cond.instanceMethod yX1_pain ∈ lw_tbl := List.mem_of_getElem? (i := 400) (by decide +kernel)
theorem se_yX1_pain : Cond.selects RX1 yX1_pain yX1_pain ∈ lw_tbl := List.mem_of_getElem? (i := 401) (by decide +kernel)
theorem cd_yX1_pain : Cond.code yX1_pain cX1_pain 3 (some .int) ∈ lw_tbl := List.mem_of_getElem? (i := 402) (by decide +kernel)
theorem ml_RX1_47 : Cond.methodLink RX1 47 yX1_painFor ∈ lw_tbl := List.mem_of_getElem? (i := 403) (by decide +kernel)
theorem st_yX1_painFor : Cond.static yX1_painFor ∈ lw_tbl := List.mem_of_getElem? (i := 404) (by decide +kernel)
theorem cd_yX1_painFor : Cond.code yX1_painFor cX1_painFor 4 (some .int) ∈ lw_tbl := List.mem_of_getElem? (i := 405) (by decide +kernel)
theorem ml_RX1_51 : Cond.methodLink RX1 51 Lib.Math.max.name ∈ lw_tbl := List.mem_of_getElem? (i := 406) (by decide +kernel)
theorem st_Lib_Math_max_name : Cond.static Lib.Math.max.name ∈ lw_tbl := List.mem_of_getElem? (i := 407) (by decide +kernel)
theorem cd_Lib_Math_max_name : Cond.code Lib.Math.max.name Lib.Math.max.code 2 (some .int) ∈ lw_tbl := List.mem_of_getElem? (i := 408) (by decide +kernel)
theorem ml_RX8_141 : Cond.methodLink RX8 141 yX7_hadBread ∈ lw_tbl := List.mem_of_getElem? (i := 409) (by decide +kernel)
theorem im_yX7_hadBread : Cond.instanceMethod yX7_hadBread ∈ lw_tbl := List.mem_of_getElem? (i := 410) (by decide +kernel)
theorem se_yX7_hadBread : Cond.selects RX7 yX7_hadBread yX7_hadBread ∈ lw_tbl := List.mem_of_getElem? (i := 411) (by decide +kernel)
theorem cd_yX7_hadBread : Cond.code yX7_hadBread cX7_hadBread 2 (some .boolean) ∈ lw_tbl := List.mem_of_getElem? (i := 412) (by decide +kernel)
theorem ml_RL_40 : Cond.methodLink RL 40 yX8_clause ∈ lw_tbl := List.mem_of_getElem? (i := 413) (by decide +kernel)
theorem im_yX8_clause : Cond.instanceMethod yX8_clause ∈ lw_tbl := List.mem_of_getElem? (i := 414) (by decide +kernel)
theorem se_yX8_clause : Cond.selects RX8 yX8_clause yX8_clause ∈ lw_tbl := List.mem_of_getElem? (i := 415) (by decide +kernel)
theorem cd_yX8_clause : Cond.code yX8_clause cX8_clause 3 (some .int) ∈ lw_tbl := List.mem_of_getElem? (i := 416) (by decide +kernel)
theorem ml_RX8_144 : Cond.methodLink RX8 144 yX1_hasClause ∈ lw_tbl := List.mem_of_getElem? (i := 417) (by decide +kernel)
theorem ml_RX8_156 : Cond.methodLink RX8 156 yX1_worth ∈ lw_tbl := List.mem_of_getElem? (i := 418) (by decide +kernel)
theorem im_yX1_worth : Cond.instanceMethod yX1_worth ∈ lw_tbl := List.mem_of_getElem? (i := 419) (by decide +kernel)
theorem se_yX1_worth : Cond.selects RX1 yX1_worth yX1_worth ∈ lw_tbl := List.mem_of_getElem? (i := 420) (by decide +kernel)
theorem cd_yX1_worth : Cond.code yX1_worth cX1_worth 2 (some .int) ∈ lw_tbl := List.mem_of_getElem? (i := 421) (by decide +kernel)
theorem ml_RL_44 : Cond.methodLink RL 44 yX8_bite ∈ lw_tbl := List.mem_of_getElem? (i := 422) (by decide +kernel)
theorem im_yX8_bite : Cond.instanceMethod yX8_bite ∈ lw_tbl := List.mem_of_getElem? (i := 423) (by decide +kernel)
theorem se_yX8_bite : Cond.selects RX8 yX8_bite yX8_bite ∈ lw_tbl := List.mem_of_getElem? (i := 424) (by decide +kernel)
theorem cd_yX8_bite : Cond.code yX8_bite cX8_bite 1 (some .int) ∈ lw_tbl := List.mem_of_getElem? (i := 425) (by decide +kernel)
theorem ml_RX8_160 : Cond.methodLink RX8 160 yX0_remember ∈ lw_tbl := List.mem_of_getElem? (i := 426) (by decide +kernel)
theorem im_yX0_remember : Cond.instanceMethod yX0_remember ∈ lw_tbl := List.mem_of_getElem? (i := 427) (by decide +kernel)
theorem se_yX0_remember : Cond.selects RX0 yX0_remember yX0_remember ∈ lw_tbl := List.mem_of_getElem? (i := 428) (by decide +kernel)
theorem cd_yX0_remember : Cond.code yX0_remember cX0_remember 2 none ∈ lw_tbl := List.mem_of_getElem? (i := 429) (by decide +kernel)
theorem ml_RX0_27 : Cond.methodLink RX0 27 yX7_copyFrom ∈ lw_tbl := List.mem_of_getElem? (i := 430) (by decide +kernel)
theorem im_yX7_copyFrom : Cond.instanceMethod yX7_copyFrom ∈ lw_tbl := List.mem_of_getElem? (i := 431) (by decide +kernel)
theorem se_yX7_copyFrom : Cond.selects RX7 yX7_copyFrom yX7_copyFrom ∈ lw_tbl := List.mem_of_getElem? (i := 432) (by decide +kernel)
theorem cd_yX7_copyFrom : Cond.code yX7_copyFrom cX7_copyFrom 3 none ∈ lw_tbl := List.mem_of_getElem? (i := 433) (by decide +kernel)
theorem ml_RX8_164 : Cond.methodLink RX8 164 yX7_takeBite ∈ lw_tbl := List.mem_of_getElem? (i := 434) (by decide +kernel)
theorem im_yX7_takeBite : Cond.instanceMethod yX7_takeBite ∈ lw_tbl := List.mem_of_getElem? (i := 435) (by decide +kernel)
theorem se_yX7_takeBite : Cond.selects RX7 yX7_takeBite yX7_takeBite ∈ lw_tbl := List.mem_of_getElem? (i := 436) (by decide +kernel)
theorem cd_yX7_takeBite : Cond.code yX7_takeBite cX7_takeBite 2 none ∈ lw_tbl := List.mem_of_getElem? (i := 437) (by decide +kernel)
theorem ml_RX7_78 : Cond.methodLink RX7 78 yX1_pain ∈ lw_tbl := List.mem_of_getElem? (i := 438) (by decide +kernel)
theorem ml_RX7_82 : Cond.methodLink RX7 82 yX1_tearsToStop ∈ lw_tbl := List.mem_of_getElem? (i := 439) (by decide +kernel)
theorem im_yX1_tearsToStop : Cond.instanceMethod yX1_tearsToStop ∈ lw_tbl := List.mem_of_getElem? (i := 440) (by decide +kernel)
theorem se_yX1_tearsToStop : Cond.selects RX1 yX1_tearsToStop yX1_tearsToStop ∈ lw_tbl := List.mem_of_getElem? (i := 441) (by decide +kernel)
theorem cd_yX1_tearsToStop : Cond.code yX1_tearsToStop cX1_tearsToStop 2 (some .int) ∈ lw_tbl := List.mem_of_getElem? (i := 442) (by decide +kernel)
theorem ml_RX7_85 : Cond.methodLink RX7 85 Lib.Math.max.name ∈ lw_tbl := List.mem_of_getElem? (i := 443) (by decide +kernel)
theorem ml_RL_48 : Cond.methodLink RL 48 yX8_say ∈ lw_tbl := List.mem_of_getElem? (i := 444) (by decide +kernel)
theorem im_yX8_say : Cond.instanceMethod yX8_say ∈ lw_tbl := List.mem_of_getElem? (i := 445) (by decide +kernel)
theorem se_yX8_say : Cond.selects RX8 yX8_say yX8_say ∈ lw_tbl := List.mem_of_getElem? (i := 446) (by decide +kernel)
theorem cd_yX8_say : Cond.code yX8_say cX8_say 2 (some .int) ∈ lw_tbl := List.mem_of_getElem? (i := 447) (by decide +kernel)
theorem ml_RX8_167 : Cond.methodLink RX8 167 yX7_canBeSaid ∈ lw_tbl := List.mem_of_getElem? (i := 448) (by decide +kernel)
theorem ml_RX8_170 : Cond.methodLink RX8 170 yX7_bind ∈ lw_tbl := List.mem_of_getElem? (i := 449) (by decide +kernel)
theorem im_yX7_bind : Cond.instanceMethod yX7_bind ∈ lw_tbl := List.mem_of_getElem? (i := 450) (by decide +kernel)
theorem se_yX7_bind : Cond.selects RX7 yX7_bind yX7_bind ∈ lw_tbl := List.mem_of_getElem? (i := 451) (by decide +kernel)
theorem cd_yX7_bind : Cond.code yX7_bind cX7_bind 2 none ∈ lw_tbl := List.mem_of_getElem? (i := 452) (by decide +kernel)
theorem ml_RL_52 : Cond.methodLink RL 52 yX8_spice ∈ lw_tbl := List.mem_of_getElem? (i := 453) (by decide +kernel)
theorem im_yX8_spice : Cond.instanceMethod yX8_spice ∈ lw_tbl := List.mem_of_getElem? (i := 454) (by decide +kernel)
theorem se_yX8_spice : Cond.selects RX8 yX8_spice yX8_spice ∈ lw_tbl := List.mem_of_getElem? (i := 455) (by decide +kernel)
theorem cd_yX8_spice : Cond.code yX8_spice cX8_spice 1 (some .int) ∈ lw_tbl := List.mem_of_getElem? (i := 456) (by decide +kernel)
theorem ml_RX8_173 : Cond.methodLink RX8 173 yX7_putSeed ∈ lw_tbl := List.mem_of_getElem? (i := 457) (by decide +kernel)
theorem im_yX7_putSeed : Cond.instanceMethod yX7_putSeed ∈ lw_tbl := List.mem_of_getElem? (i := 458) (by decide +kernel)
theorem se_yX7_putSeed : Cond.selects RX7 yX7_putSeed yX7_putSeed ∈ lw_tbl := List.mem_of_getElem? (i := 459) (by decide +kernel)
theorem cd_yX7_putSeed : Cond.code yX7_putSeed cX7_putSeed 1 none ∈ lw_tbl := List.mem_of_getElem? (i := 460) (by decide +kernel)
theorem ml_RX7_90 : Cond.methodLink RX7 90 Lib.Math.min.name ∈ lw_tbl := List.mem_of_getElem? (i := 461) (by decide +kernel)
theorem st_Lib_Math_min_name : Cond.static Lib.Math.min.name ∈ lw_tbl := List.mem_of_getElem? (i := 462) (by decide +kernel)
theorem cd_Lib_Math_min_name : Cond.code Lib.Math.min.name Lib.Math.min.code 2 (some .int) ∈ lw_tbl := List.mem_of_getElem? (i := 463) (by decide +kernel)
theorem ml_RL_56 : Cond.methodLink RL 56 yX8_bread ∈ lw_tbl := List.mem_of_getElem? (i := 464) (by decide +kernel)
theorem im_yX8_bread : Cond.instanceMethod yX8_bread ∈ lw_tbl := List.mem_of_getElem? (i := 465) (by decide +kernel)
theorem se_yX8_bread : Cond.selects RX8 yX8_bread yX8_bread ∈ lw_tbl := List.mem_of_getElem? (i := 466) (by decide +kernel)
theorem cd_yX8_bread : Cond.code yX8_bread cX8_bread 2 (some .int) ∈ lw_tbl := List.mem_of_getElem? (i := 467) (by decide +kernel)
theorem ml_RX8_176 : Cond.methodLink RX8 176 yX7_eats ∈ lw_tbl := List.mem_of_getElem? (i := 468) (by decide +kernel)
theorem ml_RX8_179 : Cond.methodLink RX8 179 yX7_takeBread ∈ lw_tbl := List.mem_of_getElem? (i := 469) (by decide +kernel)
theorem im_yX7_takeBread : Cond.instanceMethod yX7_takeBread ∈ lw_tbl := List.mem_of_getElem? (i := 470) (by decide +kernel)
theorem se_yX7_takeBread : Cond.selects RX7 yX7_takeBread yX7_takeBread ∈ lw_tbl := List.mem_of_getElem? (i := 471) (by decide +kernel)
theorem cd_yX7_takeBread : Cond.code yX7_takeBread cX7_takeBread 2 none ∈ lw_tbl := List.mem_of_getElem? (i := 472) (by decide +kernel)
theorem ml_RL_60 : Cond.methodLink RL 60 yX8_undo ∈ lw_tbl := List.mem_of_getElem? (i := 473) (by decide +kernel)
theorem im_yX8_undo : Cond.instanceMethod yX8_undo ∈ lw_tbl := List.mem_of_getElem? (i := 474) (by decide +kernel)
theorem se_yX8_undo : Cond.selects RX8 yX8_undo yX8_undo ∈ lw_tbl := List.mem_of_getElem? (i := 475) (by decide +kernel)
theorem cd_yX8_undo : Cond.code yX8_undo cX8_undo 1 (some .int) ∈ lw_tbl := List.mem_of_getElem? (i := 476) (by decide +kernel)
theorem ml_RX8_182 : Cond.methodLink RX8 182 yX0_takeBack ∈ lw_tbl := List.mem_of_getElem? (i := 477) (by decide +kernel)
theorem im_yX0_takeBack : Cond.instanceMethod yX0_takeBack ∈ lw_tbl := List.mem_of_getElem? (i := 478) (by decide +kernel)
theorem se_yX0_takeBack : Cond.selects RX0 yX0_takeBack yX0_takeBack ∈ lw_tbl := List.mem_of_getElem? (i := 479) (by decide +kernel)
theorem cd_yX0_takeBack : Cond.code yX0_takeBack cX0_takeBack 2 none ∈ lw_tbl := List.mem_of_getElem? (i := 480) (by decide +kernel)
theorem ml_RL_64 : Cond.methodLink RL 64 yX8_lasts ∈ lw_tbl := List.mem_of_getElem? (i := 481) (by decide +kernel)
theorem im_yX8_lasts : Cond.instanceMethod yX8_lasts ∈ lw_tbl := List.mem_of_getElem? (i := 482) (by decide +kernel)
theorem se_yX8_lasts : Cond.selects RX8 yX8_lasts yX8_lasts ∈ lw_tbl := List.mem_of_getElem? (i := 483) (by decide +kernel)
theorem cd_yX8_lasts : Cond.code yX8_lasts cX8_lasts 2 (some .int) ∈ lw_tbl := List.mem_of_getElem? (i := 484) (by decide +kernel)
theorem ml_RX8_185 : Cond.methodLink RX8 185 yX8_bitesTillNoneOf ∈ lw_tbl := List.mem_of_getElem? (i := 485) (by decide +kernel)
theorem im_yX8_bitesTillNoneOf : Cond.instanceMethod yX8_bitesTillNoneOf ∈ lw_tbl := List.mem_of_getElem? (i := 487) (by decide +kernel)
theorem cd_yX8_bitesTillNoneOf : Cond.code yX8_bitesTillNoneOf cX8_bitesTillNoneOf 3 (some .int) ∈ lw_tbl := List.mem_of_getElem? (i := 488) (by decide +kernel)
theorem ml_RX8_188 : Cond.methodLink RX8 188 yX7_copyFrom ∈ lw_tbl := List.mem_of_getElem? (i := 489) (by decide +kernel)
theorem ml_RL_68 : Cond.methodLink RL 68 yX8_bears ∈ lw_tbl := List.mem_of_getElem? (i := 490) (by decide +kernel)
theorem im_yX8_bears : Cond.instanceMethod yX8_bears ∈ lw_tbl := List.mem_of_getElem? (i := 491) (by decide +kernel)
theorem se_yX8_bears : Cond.selects RX8 yX8_bears yX8_bears ∈ lw_tbl := List.mem_of_getElem? (i := 492) (by decide +kernel)
theorem cd_yX8_bears : Cond.code yX8_bears cX8_bears 2 (some .int) ∈ lw_tbl := List.mem_of_getElem? (i := 493) (by decide +kernel)
theorem ml_RL_72 : Cond.methodLink RL 72 yX8_best ∈ lw_tbl := List.mem_of_getElem? (i := 494) (by decide +kernel)
theorem im_yX8_best : Cond.instanceMethod yX8_best ∈ lw_tbl := List.mem_of_getElem? (i := 495) (by decide +kernel)
theorem se_yX8_best : Cond.selects RX8 yX8_best yX8_best ∈ lw_tbl := List.mem_of_getElem? (i := 496) (by decide +kernel)
theorem cd_yX8_best : Cond.code yX8_best cX8_best 4 (some .int) ∈ lw_tbl := List.mem_of_getElem? (i := 497) (by decide +kernel)
theorem ml_RX8_191 : Cond.methodLink RX8 191 yX3_mostBy ∈ lw_tbl := List.mem_of_getElem? (i := 498) (by decide +kernel)
theorem im_yX3_mostBy : Cond.instanceMethod yX3_mostBy ∈ lw_tbl := List.mem_of_getElem? (i := 499) (by decide +kernel)
theorem se_yX3_mostBy : Cond.selects RX3 yX3_mostBy yX3_mostBy ∈ lw_tbl := List.mem_of_getElem? (i := 500) (by decide +kernel)
theorem cd_yX3_mostBy : Cond.code yX3_mostBy cX3_mostBy 4 (some .int) ∈ lw_tbl := List.mem_of_getElem? (i := 501) (by decide +kernel)
theorem ml_RX3_24 : Cond.methodLink RX3 24 Lib.Math.min.name ∈ lw_tbl := List.mem_of_getElem? (i := 502) (by decide +kernel)
theorem ml_RX3_43 : Cond.methodLink RX3 43 yX7_copyFrom ∈ lw_tbl := List.mem_of_getElem? (i := 503) (by decide +kernel)
theorem ml_RX3_47 : Cond.methodLink RX3 47 yX3_goOn ∈ lw_tbl := List.mem_of_getElem? (i := 504) (by decide +kernel)
theorem im_yX3_goOn : Cond.instanceMethod yX3_goOn ∈ lw_tbl := List.mem_of_getElem? (i := 506) (by decide +kernel)
theorem cd_yX3_goOn : Cond.code yX3_goOn cX3_goOn 7 none ∈ lw_tbl := List.mem_of_getElem? (i := 507) (by decide +kernel)
theorem ml_RX3_51 : Cond.methodLink RX3 51 yX7_takeBite ∈ lw_tbl := List.mem_of_getElem? (i := 508) (by decide +kernel)
theorem ml_RX3_59 : Cond.methodLink RX3 59 yX7_canBeSaid ∈ lw_tbl := List.mem_of_getElem? (i := 509) (by decide +kernel)
theorem ml_RX3_63 : Cond.methodLink RX3 63 yX7_bind ∈ lw_tbl := List.mem_of_getElem? (i := 510) (by decide +kernel)
theorem ml_RX3_67 : Cond.methodLink RX3 67 yX1_worth ∈ lw_tbl := List.mem_of_getElem? (i := 511) (by decide +kernel)
theorem ml_RL_77 : Cond.methodLink RL 77 yX8_hot ∈ lw_tbl := List.mem_of_getElem? (i := 512) (by decide +kernel)
theorem im_yX8_hot : Cond.instanceMethod yX8_hot ∈ lw_tbl := List.mem_of_getElem? (i := 513) (by decide +kernel)
theorem se_yX8_hot : Cond.selects RX8 yX8_hot yX8_hot ∈ lw_tbl := List.mem_of_getElem? (i := 514) (by decide +kernel)
theorem cd_yX8_hot : Cond.code yX8_hot cX8_hot 5 (some .int) ∈ lw_tbl := List.mem_of_getElem? (i := 515) (by decide +kernel)
theorem ml_RX8_198 : Cond.methodLink RX8 198 yX8_canBeSaidFrom ∈ lw_tbl := List.mem_of_getElem? (i := 516) (by decide +kernel)
theorem im_yX8_canBeSaidFrom : Cond.instanceMethod yX8_canBeSaidFrom ∈ lw_tbl := List.mem_of_getElem? (i := 518) (by decide +kernel)
theorem cd_yX8_canBeSaidFrom : Cond.code yX8_canBeSaidFrom cX8_canBeSaidFrom 5 (some .boolean) ∈ lw_tbl := List.mem_of_getElem? (i := 519) (by decide +kernel)
theorem ml_RL_81 : Cond.methodLink RL 81 yX8_spiceFor ∈ lw_tbl := List.mem_of_getElem? (i := 520) (by decide +kernel)
theorem im_yX8_spiceFor : Cond.instanceMethod yX8_spiceFor ∈ lw_tbl := List.mem_of_getElem? (i := 521) (by decide +kernel)
theorem se_yX8_spiceFor : Cond.selects RX8 yX8_spiceFor yX8_spiceFor ∈ lw_tbl := List.mem_of_getElem? (i := 522) (by decide +kernel)
theorem cd_yX8_spiceFor : Cond.code yX8_spiceFor cX8_spiceFor 3 (some .int) ∈ lw_tbl := List.mem_of_getElem? (i := 523) (by decide +kernel)
theorem ml_RX8_202 : Cond.methodLink RX8 202 yX7_isBound ∈ lw_tbl := List.mem_of_getElem? (i := 524) (by decide +kernel)
theorem ml_RL_85 : Cond.methodLink RL 85 yX8_judge ∈ lw_tbl := List.mem_of_getElem? (i := 525) (by decide +kernel)
theorem im_yX8_judge : Cond.instanceMethod yX8_judge ∈ lw_tbl := List.mem_of_getElem? (i := 526) (by decide +kernel)
theorem se_yX8_judge : Cond.selects RX8 yX8_judge yX8_judge ∈ lw_tbl := List.mem_of_getElem? (i := 527) (by decide +kernel)
theorem cd_yX8_judge : Cond.code yX8_judge cX8_judge 5 (some .int) ∈ lw_tbl := List.mem_of_getElem? (i := 528) (by decide +kernel)
theorem ml_RX8_205 : Cond.methodLink RX8 205 yX8_isRowOfFigures ∈ lw_tbl := List.mem_of_getElem? (i := 529) (by decide +kernel)
theorem st_yX8_isRowOfFigures : Cond.static yX8_isRowOfFigures ∈ lw_tbl := List.mem_of_getElem? (i := 530) (by decide +kernel)
theorem cd_yX8_isRowOfFigures : Cond.code yX8_isRowOfFigures cX8_isRowOfFigures 4 (some .boolean) ∈ lw_tbl := List.mem_of_getElem? (i := 531) (by decide +kernel)
theorem ml_RX8_209 : Cond.methodLink RX8 209 yX8_powerOfTen ∈ lw_tbl := List.mem_of_getElem? (i := 532) (by decide +kernel)
theorem st_yX8_powerOfTen : Cond.static yX8_powerOfTen ∈ lw_tbl := List.mem_of_getElem? (i := 533) (by decide +kernel)
theorem cd_yX8_powerOfTen : Cond.code yX8_powerOfTen cX8_powerOfTen 3 (some .int) ∈ lw_tbl := List.mem_of_getElem? (i := 534) (by decide +kernel)
theorem ml_RX8_212 : Cond.methodLink RX8 212 yX7_takeTurn ∈ lw_tbl := List.mem_of_getElem? (i := 535) (by decide +kernel)
theorem im_yX7_takeTurn : Cond.instanceMethod yX7_takeTurn ∈ lw_tbl := List.mem_of_getElem? (i := 536) (by decide +kernel)
theorem se_yX7_takeTurn : Cond.selects RX7 yX7_takeTurn yX7_takeTurn ∈ lw_tbl := List.mem_of_getElem? (i := 537) (by decide +kernel)
theorem cd_yX7_takeTurn : Cond.code yX7_takeTurn cX7_takeTurn 3 (some .boolean) ∈ lw_tbl := List.mem_of_getElem? (i := 538) (by decide +kernel)
theorem ml_RX7_93 : Cond.methodLink RX7 93 yX7_changeBy ∈ lw_tbl := List.mem_of_getElem? (i := 539) (by decide +kernel)
theorem im_yX7_changeBy : Cond.instanceMethod yX7_changeBy ∈ lw_tbl := List.mem_of_getElem? (i := 541) (by decide +kernel)
theorem cd_yX7_changeBy : Cond.code yX7_changeBy cX7_changeBy 2 none ∈ lw_tbl := List.mem_of_getElem? (i := 542) (by decide +kernel)
theorem ml_RX7_97 : Cond.methodLink RX7 97 yX7_takeBite ∈ lw_tbl := List.mem_of_getElem? (i := 543) (by decide +kernel)
theorem ml_RX7_100 : Cond.methodLink RX7 100 yX7_putSeed ∈ lw_tbl := List.mem_of_getElem? (i := 544) (by decide +kernel)
theorem ml_RX7_103 : Cond.methodLink RX7 103 yX7_bind ∈ lw_tbl := List.mem_of_getElem? (i := 545) (by decide +kernel)
theorem ml_RL_89 : Cond.methodLink RL 89 yX8_share ∈ lw_tbl := List.mem_of_getElem? (i := 546) (by decide +kernel)
theorem im_yX8_share : Cond.instanceMethod yX8_share ∈ lw_tbl := List.mem_of_getElem? (i := 547) (by decide +kernel)
theorem se_yX8_share : Cond.selects RX8 yX8_share yX8_share ∈ lw_tbl := List.mem_of_getElem? (i := 548) (by decide +kernel)
theorem cd_yX8_share : Cond.code yX8_share cX8_share 8 (some .int) ∈ lw_tbl := List.mem_of_getElem? (i := 549) (by decide +kernel)
theorem ml_RX8_215 : Cond.methodLink RX8 215 yX1_clausesOf ∈ lw_tbl := List.mem_of_getElem? (i := 550) (by decide +kernel)
theorem im_yX1_clausesOf : Cond.instanceMethod yX1_clausesOf ∈ lw_tbl := List.mem_of_getElem? (i := 551) (by decide +kernel)
theorem se_yX1_clausesOf : Cond.selects RX1 yX1_clausesOf yX1_clausesOf ∈ lw_tbl := List.mem_of_getElem? (i := 552) (by decide +kernel)
theorem cd_yX1_clausesOf : Cond.code yX1_clausesOf cX1_clausesOf 4 (some .int) ∈ lw_tbl := List.mem_of_getElem? (i := 553) (by decide +kernel)
theorem ml_RX8_218 : Cond.methodLink RX8 218 yX8_ordersWith ∈ lw_tbl := List.mem_of_getElem? (i := 554) (by decide +kernel)
theorem im_yX8_ordersWith : Cond.instanceMethod yX8_ordersWith ∈ lw_tbl := List.mem_of_getElem? (i := 556) (by decide +kernel)
theorem cd_yX8_ordersWith : Cond.code yX8_ordersWith cX8_ordersWith 3 (some .int) ∈ lw_tbl := List.mem_of_getElem? (i := 557) (by decide +kernel)
theorem ml_RX8_228 : Cond.methodLink RX8 228 yJ6_bitCount_0f7a4 ∈ lw_tbl := List.mem_of_getElem? (i := 558) (by decide +kernel)
theorem st_yJ6_bitCount_0f7a4 : Cond.static yJ6_bitCount_0f7a4 ∈ lw_tbl := List.mem_of_getElem? (i := 559) (by decide +kernel)
theorem cd_yJ6_bitCount_0f7a4 : Cond.code yJ6_bitCount_0f7a4 cJ6_bitCount_0f7a4 1 (some .int) ∈ lw_tbl := List.mem_of_getElem? (i := 560) (by decide +kernel)
theorem ki_RJ6_265 : Cond.constant RJ6 265 1431655765 ∈ lw_tbl := List.mem_of_getElem? (i := 561) (by decide +kernel)
theorem ki_RJ6_266 : Cond.constant RJ6 266 858993459 ∈ lw_tbl := List.mem_of_getElem? (i := 562) (by decide +kernel)
theorem ki_RJ6_267 : Cond.constant RJ6 267 252645135 ∈ lw_tbl := List.mem_of_getElem? (i := 563) (by decide +kernel)
theorem ml_RX8_221 : Cond.methodLink RX8 221 yX8_factorial ∈ lw_tbl := List.mem_of_getElem? (i := 564) (by decide +kernel)
theorem st_yX8_factorial : Cond.static yX8_factorial ∈ lw_tbl := List.mem_of_getElem? (i := 565) (by decide +kernel)
theorem cd_yX8_factorial : Cond.code yX8_factorial cX8_factorial 3 (some .int) ∈ lw_tbl := List.mem_of_getElem? (i := 566) (by decide +kernel)
theorem ml_RX8_224 : Cond.methodLink RX8 224 yX8_fraction ∈ lw_tbl := List.mem_of_getElem? (i := 567) (by decide +kernel)
theorem st_yX8_fraction : Cond.static yX8_fraction ∈ lw_tbl := List.mem_of_getElem? (i := 568) (by decide +kernel)
theorem cd_yX8_fraction : Cond.code yX8_fraction cX8_fraction 4 (some .int) ∈ lw_tbl := List.mem_of_getElem? (i := 569) (by decide +kernel)
theorem ml_RX8_233 : Cond.methodLink RX8 233 yX8_commonDivisor ∈ lw_tbl := List.mem_of_getElem? (i := 570) (by decide +kernel)
theorem st_yX8_commonDivisor : Cond.static yX8_commonDivisor ∈ lw_tbl := List.mem_of_getElem? (i := 571) (by decide +kernel)
theorem cd_yX8_commonDivisor : Cond.code yX8_commonDivisor cX8_commonDivisor 6 (some .int) ∈ lw_tbl := List.mem_of_getElem? (i := 572) (by decide +kernel)
theorem ml_RX8_236 : Cond.methodLink RX8 236 Lib.Math.max.name ∈ lw_tbl := List.mem_of_getElem? (i := 573) (by decide +kernel)
theorem ml_RL_93 : Cond.methodLink RL 93 yX8_see ∈ lw_tbl := List.mem_of_getElem? (i := 574) (by decide +kernel)
theorem im_yX8_see : Cond.instanceMethod yX8_see ∈ lw_tbl := List.mem_of_getElem? (i := 575) (by decide +kernel)
theorem se_yX8_see : Cond.selects RX8 yX8_see yX8_see ∈ lw_tbl := List.mem_of_getElem? (i := 576) (by decide +kernel)
theorem cd_yX8_see : Cond.code yX8_see cX8_see 4 (some .int) ∈ lw_tbl := List.mem_of_getElem? (i := 577) (by decide +kernel)
theorem ml_RX8_241 : Cond.methodLink RX8 241 yX8_isKind ∈ lw_tbl := List.mem_of_getElem? (i := 578) (by decide +kernel)
theorem st_yX8_isKind : Cond.static yX8_isKind ∈ lw_tbl := List.mem_of_getElem? (i := 579) (by decide +kernel)
theorem cd_yX8_isKind : Cond.code yX8_isKind cX8_isKind 1 (some .boolean) ∈ lw_tbl := List.mem_of_getElem? (i := 580) (by decide +kernel)
theorem ml_RX8_244 : Cond.methodLink RX8 244 yX4_add ∈ lw_tbl := List.mem_of_getElem? (i := 581) (by decide +kernel)
theorem im_yX4_add : Cond.instanceMethod yX4_add ∈ lw_tbl := List.mem_of_getElem? (i := 582) (by decide +kernel)
theorem se_yX4_add : Cond.selects RX4 yX4_add yX4_add ∈ lw_tbl := List.mem_of_getElem? (i := 583) (by decide +kernel)
theorem cd_yX4_add : Cond.code yX4_add cX4_add 4 none ∈ lw_tbl := List.mem_of_getElem? (i := 584) (by decide +kernel)
theorem ml_RL_98 : Cond.methodLink RL 98 yX8_unsee ∈ lw_tbl := List.mem_of_getElem? (i := 585) (by decide +kernel)
theorem im_yX8_unsee : Cond.instanceMethod yX8_unsee ∈ lw_tbl := List.mem_of_getElem? (i := 586) (by decide +kernel)
theorem se_yX8_unsee : Cond.selects RX8 yX8_unsee yX8_unsee ∈ lw_tbl := List.mem_of_getElem? (i := 587) (by decide +kernel)
theorem cd_yX8_unsee : Cond.code yX8_unsee cX8_unsee 2 (some .int) ∈ lw_tbl := List.mem_of_getElem? (i := 588) (by decide +kernel)
theorem ml_RL_102 : Cond.methodLink RL 102 yX8_palates ∈ lw_tbl := List.mem_of_getElem? (i := 589) (by decide +kernel)
theorem im_yX8_palates : Cond.instanceMethod yX8_palates ∈ lw_tbl := List.mem_of_getElem? (i := 590) (by decide +kernel)
theorem se_yX8_palates : Cond.selects RX8 yX8_palates yX8_palates ∈ lw_tbl := List.mem_of_getElem? (i := 591) (by decide +kernel)
theorem cd_yX8_palates : Cond.code yX8_palates cX8_palates 2 (some .int) ∈ lw_tbl := List.mem_of_getElem? (i := 592) (by decide +kernel)
theorem ml_RX8_248 : Cond.methodLink RX8 248 yX4_palatesThatFit ∈ lw_tbl := List.mem_of_getElem? (i := 593) (by decide +kernel)
theorem im_yX4_palatesThatFit : Cond.instanceMethod yX4_palatesThatFit ∈ lw_tbl := List.mem_of_getElem? (i := 594) (by decide +kernel)
theorem se_yX4_palatesThatFit : Cond.selects RX4 yX4_palatesThatFit yX4_palatesThatFit ∈ lw_tbl := List.mem_of_getElem? (i := 595) (by decide +kernel)
theorem cd_yX4_palatesThatFit : Cond.code yX4_palatesThatFit cX4_palatesThatFit 4 (some .int) ∈ lw_tbl := List.mem_of_getElem? (i := 596) (by decide +kernel)
theorem ml_RX4_25 : Cond.methodLink RX4 25 yX4_fitsAll ∈ lw_tbl := List.mem_of_getElem? (i := 597) (by decide +kernel)
theorem im_yX4_fitsAll : Cond.instanceMethod yX4_fitsAll ∈ lw_tbl := List.mem_of_getElem? (i := 599) (by decide +kernel)
theorem cd_yX4_fitsAll : Cond.code yX4_fitsAll cX4_fitsAll 4 (some .boolean) ∈ lw_tbl := List.mem_of_getElem? (i := 600) (by decide +kernel)
theorem ml_RX4_29 : Cond.methodLink RX4 29 yX1_painFor ∈ lw_tbl := List.mem_of_getElem? (i := 601) (by decide +kernel)
theorem ml_RL_106 : Cond.methodLink RL 106 yX8_rests ∈ lw_tbl := List.mem_of_getElem? (i := 602) (by decide +kernel)
theorem im_yX8_rests : Cond.instanceMethod yX8_rests ∈ lw_tbl := List.mem_of_getElem? (i := 603) (by decide +kernel)
theorem se_yX8_rests : Cond.selects RX8 yX8_rests yX8_rests ∈ lw_tbl := List.mem_of_getElem? (i := 604) (by decide +kernel)
theorem cd_yX8_rests : Cond.code yX8_rests cX8_rests 4 (some .int) ∈ lw_tbl := List.mem_of_getElem? (i := 605) (by decide +kernel)
theorem ml_RX8_251 : Cond.methodLink RX8 251 yX6_find ∈ lw_tbl := List.mem_of_getElem? (i := 606) (by decide +kernel)
theorem im_yX6_find : Cond.instanceMethod yX6_find ∈ lw_tbl := List.mem_of_getElem? (i := 607) (by decide +kernel)
theorem se_yX6_find : Cond.selects RX6 yX6_find yX6_find ∈ lw_tbl := List.mem_of_getElem? (i := 608) (by decide +kernel)
theorem cd_yX6_find : Cond.code yX6_find cX6_find 6 none ∈ lw_tbl := List.mem_of_getElem? (i := 609) (by decide +kernel)
theorem ml_RX6_22 : Cond.methodLink RX6 22 yX6_isLeast ∈ lw_tbl := List.mem_of_getElem? (i := 610) (by decide +kernel)
theorem im_yX6_isLeast : Cond.instanceMethod yX6_isLeast ∈ lw_tbl := List.mem_of_getElem? (i := 612) (by decide +kernel)
theorem cd_yX6_isLeast : Cond.code yX6_isLeast cX6_isLeast 7 (some .boolean) ∈ lw_tbl := List.mem_of_getElem? (i := 613) (by decide +kernel)
theorem ml_RX6_26 : Cond.methodLink RX6 26 yX6_loss ∈ lw_tbl := List.mem_of_getElem? (i := 614) (by decide +kernel)
theorem im_yX6_loss : Cond.instanceMethod yX6_loss ∈ lw_tbl := List.mem_of_getElem? (i := 616) (by decide +kernel)
theorem cd_yX6_loss : Cond.code yX6_loss cX6_loss 8 (some .int) ∈ lw_tbl := List.mem_of_getElem? (i := 617) (by decide +kernel)
theorem ml_RX6_30 : Cond.methodLink RX6 30 Lib.Math.min.name ∈ lw_tbl := List.mem_of_getElem? (i := 618) (by decide +kernel)
theorem ml_RX6_36 : Cond.methodLink RX6 36 Lib.Math.max.name ∈ lw_tbl := List.mem_of_getElem? (i := 619) (by decide +kernel)
theorem ml_RX6_39 : Cond.methodLink RX6 39 yX1_pain ∈ lw_tbl := List.mem_of_getElem? (i := 620) (by decide +kernel)
theorem ml_RL_110 : Cond.methodLink RL 110 yX8_chance ∈ lw_tbl := List.mem_of_getElem? (i := 621) (by decide +kernel)
theorem im_yX8_chance : Cond.instanceMethod yX8_chance ∈ lw_tbl := List.mem_of_getElem? (i := 622) (by decide +kernel)
theorem se_yX8_chance : Cond.selects RX8 yX8_chance yX8_chance ∈ lw_tbl := List.mem_of_getElem? (i := 623) (by decide +kernel)
theorem cd_yX8_chance : Cond.code yX8_chance cX8_chance 7 (some .int) ∈ lw_tbl := List.mem_of_getElem? (i := 624) (by decide +kernel)
theorem ml_RX8_258 : Cond.methodLink RX8 258 yX8_stillEats ∈ lw_tbl := List.mem_of_getElem? (i := 625) (by decide +kernel)
theorem im_yX8_stillEats : Cond.instanceMethod yX8_stillEats ∈ lw_tbl := List.mem_of_getElem? (i := 627) (by decide +kernel)
theorem cd_yX8_stillEats : Cond.code yX8_stillEats cX8_stillEats 6 (some .boolean) ∈ lw_tbl := List.mem_of_getElem? (i := 628) (by decide +kernel)
theorem ml_RX8_265 : Cond.methodLink RX8 265 yX1_tearsToStop ∈ lw_tbl := List.mem_of_getElem? (i := 629) (by decide +kernel)
theorem ml_RX8_261 : Cond.methodLink RX8 261 yX8_weight ∈ lw_tbl := List.mem_of_getElem? (i := 630) (by decide +kernel)
theorem st_yX8_weight : Cond.static yX8_weight ∈ lw_tbl := List.mem_of_getElem? (i := 631) (by decide +kernel)
theorem cd_yX8_weight : Cond.code yX8_weight cX8_weight 5 (some .int) ∈ lw_tbl := List.mem_of_getElem? (i := 632) (by decide +kernel)
theorem ml_RL_117 : Cond.methodLink RL 117 yX8_seed ∈ lw_tbl := List.mem_of_getElem? (i := 633) (by decide +kernel)
theorem im_yX8_seed : Cond.instanceMethod yX8_seed ∈ lw_tbl := List.mem_of_getElem? (i := 634) (by decide +kernel)
theorem se_yX8_seed : Cond.selects RX8 yX8_seed yX8_seed ∈ lw_tbl := List.mem_of_getElem? (i := 635) (by decide +kernel)
theorem cd_yX8_seed : Cond.code yX8_seed cX8_seed 5 (some .long) ∈ lw_tbl := List.mem_of_getElem? (i := 636) (by decide +kernel)
theorem ml_RL_122 : Cond.methodLink RL 122 yX8_talks ∈ lw_tbl := List.mem_of_getElem? (i := 637) (by decide +kernel)
theorem im_yX8_talks : Cond.instanceMethod yX8_talks ∈ lw_tbl := List.mem_of_getElem? (i := 638) (by decide +kernel)
theorem se_yX8_talks : Cond.selects RX8 yX8_talks yX8_talks ∈ lw_tbl := List.mem_of_getElem? (i := 639) (by decide +kernel)
theorem cd_yX8_talks : Cond.code yX8_talks cX8_talks 3 (some .int) ∈ lw_tbl := List.mem_of_getElem? (i := 640) (by decide +kernel)
theorem kl_RX8_272 : Cond.constantLong RX8 272 6364136223846793005 ∈ lw_tbl := List.mem_of_getElem? (i := 641) (by decide +kernel)
theorem kl_RX8_274 : Cond.constantLong RX8 274 1442695040888963407 ∈ lw_tbl := List.mem_of_getElem? (i := 642) (by decide +kernel)
theorem kl_RX8_276 : Cond.constantLong RX8 276 12 ∈ lw_tbl := List.mem_of_getElem? (i := 643) (by decide +kernel)
theorem ml_RX8_278 : Cond.methodLink RX8 278 yX8_takeDrawnTurn ∈ lw_tbl := List.mem_of_getElem? (i := 644) (by decide +kernel)
theorem im_yX8_takeDrawnTurn : Cond.instanceMethod yX8_takeDrawnTurn ∈ lw_tbl := List.mem_of_getElem? (i := 646) (by decide +kernel)
theorem cd_yX8_takeDrawnTurn : Cond.code yX8_takeDrawnTurn cX8_takeDrawnTurn 2 none ∈ lw_tbl := List.mem_of_getElem? (i := 647) (by decide +kernel)
theorem ml_RX8_281 : Cond.methodLink RX8 281 yX1_worthOf ∈ lw_tbl := List.mem_of_getElem? (i := 648) (by decide +kernel)
theorem im_yX1_worthOf : Cond.instanceMethod yX1_worthOf ∈ lw_tbl := List.mem_of_getElem? (i := 649) (by decide +kernel)
theorem se_yX1_worthOf : Cond.selects RX1 yX1_worthOf yX1_worthOf ∈ lw_tbl := List.mem_of_getElem? (i := 650) (by decide +kernel)
theorem cd_yX1_worthOf : Cond.code yX1_worthOf cX1_worthOf 4 (some .int) ∈ lw_tbl := List.mem_of_getElem? (i := 651) (by decide +kernel)
theorem ml_RX1_43 : Cond.methodLink RX1 43 yX1_worth ∈ lw_tbl := List.mem_of_getElem? (i := 652) (by decide +kernel)
theorem ml_RL_126 : Cond.methodLink RL 126 yX8_keep ∈ lw_tbl := List.mem_of_getElem? (i := 653) (by decide +kernel)
theorem im_yX8_keep : Cond.instanceMethod yX8_keep ∈ lw_tbl := List.mem_of_getElem? (i := 654) (by decide +kernel)
theorem se_yX8_keep : Cond.selects RX8 yX8_keep yX8_keep ∈ lw_tbl := List.mem_of_getElem? (i := 655) (by decide +kernel)
theorem cd_yX8_keep : Cond.code yX8_keep cX8_keep 2 (some .int) ∈ lw_tbl := List.mem_of_getElem? (i := 656) (by decide +kernel)
theorem ml_RX8_284 : Cond.methodLink RX8 284 yX5_put ∈ lw_tbl := List.mem_of_getElem? (i := 657) (by decide +kernel)
theorem im_yX5_put : Cond.instanceMethod yX5_put ∈ lw_tbl := List.mem_of_getElem? (i := 658) (by decide +kernel)
theorem se_yX5_put : Cond.selects RX5 yX5_put yX5_put ∈ lw_tbl := List.mem_of_getElem? (i := 659) (by decide +kernel)
theorem cd_yX5_put : Cond.code yX5_put cX5_put 3 none ∈ lw_tbl := List.mem_of_getElem? (i := 660) (by decide +kernel)
theorem ml_RX5_24 : Cond.methodLink RX5 24 yX7_copyFrom ∈ lw_tbl := List.mem_of_getElem? (i := 661) (by decide +kernel)
theorem ml_RL_130 : Cond.methodLink RL 130 yX8_again ∈ lw_tbl := List.mem_of_getElem? (i := 662) (by decide +kernel)
theorem im_yX8_again : Cond.instanceMethod yX8_again ∈ lw_tbl := List.mem_of_getElem? (i := 663) (by decide +kernel)
theorem se_yX8_again : Cond.selects RX8 yX8_again yX8_again ∈ lw_tbl := List.mem_of_getElem? (i := 664) (by decide +kernel)
theorem cd_yX8_again : Cond.code yX8_again cX8_again 2 (some .int) ∈ lw_tbl := List.mem_of_getElem? (i := 665) (by decide +kernel)
theorem cl_RL_10 : Cond.classLink RL 10 RX9 ∈ lw_tbl := List.mem_of_getElem? (i := 666) (by decide +kernel)
theorem ins_RX9 : Cond.instantiable RX9 30 ∈ lw_tbl := List.mem_of_getElem? (i := 667) (by decide +kernel)
theorem ml_RL_12 : Cond.methodLink RL 12 yX9_init ∈ lw_tbl := List.mem_of_getElem? (i := 668) (by decide +kernel)
theorem im_yX9_init : Cond.instanceMethod yX9_init ∈ lw_tbl := List.mem_of_getElem? (i := 669) (by decide +kernel)
theorem cd_yX9_init : Cond.code yX9_init cX9_init 1 none ∈ lw_tbl := List.mem_of_getElem? (i := 670) (by decide +kernel)
theorem ml_RX9_1 : Cond.methodLink RX9 1 objectInit ∈ lw_tbl := List.mem_of_getElem? (i := 671) (by decide +kernel)
theorem fl_RX9_53 : Cond.fieldLink RX9 53 "MustardTreatyModel" "thrown" "I" ∈ lw_tbl := List.mem_of_getElem? (i := 672) (by decide +kernel)
theorem fl_RX9_7 : Cond.fieldLink RX9 7 "MustardTreatyModel" "text" "[I" ∈ lw_tbl := List.mem_of_getElem? (i := 673) (by decide +kernel)
theorem fl_RX9_69 : Cond.fieldLink RX9 69 "MustardTreatyModel" "textSize" "I" ∈ lw_tbl := List.mem_of_getElem? (i := 674) (by decide +kernel)
theorem fl_RX9_72 : Cond.fieldLink RX9 72 "MustardTreatyModel" "place" "I" ∈ lw_tbl := List.mem_of_getElem? (i := 675) (by decide +kernel)
theorem fl_RX9_57 : Cond.fieldLink RX9 57 "MustardTreatyModel" "envoys" "I" ∈ lw_tbl := List.mem_of_getElem? (i := 676) (by decide +kernel)
theorem fl_RX9_13 : Cond.fieldLink RX9 13 "MustardTreatyModel" "envoy" "[I" ∈ lw_tbl := List.mem_of_getElem? (i := 677) (by decide +kernel)
theorem fl_RX9_64 : Cond.fieldLink RX9 64 "MustardTreatyModel" "clauses" "I" ∈ lw_tbl := List.mem_of_getElem? (i := 678) (by decide +kernel)
theorem fl_RX9_16 : Cond.fieldLink RX9 16 "MustardTreatyModel" "clause" "[I" ∈ lw_tbl := List.mem_of_getElem? (i := 679) (by decide +kernel)
theorem fl_RX9_90 : Cond.fieldLink RX9 90 "MustardTreatyModel" "readHeat" "I" ∈ lw_tbl := List.mem_of_getElem? (i := 680) (by decide +kernel)
theorem fl_RX9_93 : Cond.fieldLink RX9 93 "MustardTreatyModel" "readSeed" "I" ∈ lw_tbl := List.mem_of_getElem? (i := 681) (by decide +kernel)
theorem fl_RX9_79 : Cond.fieldLink RX9 79 "MustardTreatyModel" "readEnvoys" "I" ∈ lw_tbl := List.mem_of_getElem? (i := 682) (by decide +kernel)
theorem fl_RX9_19 : Cond.fieldLink RX9 19 "MustardTreatyModel" "readEnvoy" "[I" ∈ lw_tbl := List.mem_of_getElem? (i := 683) (by decide +kernel)
theorem fl_RX9_82 : Cond.fieldLink RX9 82 "MustardTreatyModel" "readClauses" "I" ∈ lw_tbl := List.mem_of_getElem? (i := 684) (by decide +kernel)
theorem fl_RX9_22 : Cond.fieldLink RX9 22 "MustardTreatyModel" "readClause" "[I" ∈ lw_tbl := List.mem_of_getElem? (i := 685) (by decide +kernel)
theorem fl_RX9_25 : Cond.fieldLink RX9 25 "MustardTreatyModel" "page" "[I" ∈ lw_tbl := List.mem_of_getElem? (i := 686) (by decide +kernel)
theorem fl_RX9_28 : Cond.fieldLink RX9 28 "MustardTreatyModel" "trial" "[I" ∈ lw_tbl := List.mem_of_getElem? (i := 687) (by decide +kernel)
theorem fl_RX9_31 : Cond.fieldLink RX9 31 "MustardTreatyModel" "book" "[I" ∈ lw_tbl := List.mem_of_getElem? (i := 688) (by decide +kernel)
theorem fl_RX9_103 : Cond.fieldLink RX9 103 "MustardTreatyModel" "acts" "I" ∈ lw_tbl := List.mem_of_getElem? (i := 689) (by decide +kernel)
theorem fl_RX9_34 : Cond.fieldLink RX9 34 "MustardTreatyModel" "kept" "[I" ∈ lw_tbl := List.mem_of_getElem? (i := 690) (by decide +kernel)
theorem fl_RX9_37 : Cond.fieldLink RX9 37 "MustardTreatyModel" "isKept" "[Z" ∈ lw_tbl := List.mem_of_getElem? (i := 691) (by decide +kernel)
theorem fl_RX9_125 : Cond.fieldLink RX9 125 "MustardTreatyModel" "seen" "I" ∈ lw_tbl := List.mem_of_getElem? (i := 692) (by decide +kernel)
theorem fl_RX9_41 : Cond.fieldLink RX9 41 "MustardTreatyModel" "seenKind" "[I" ∈ lw_tbl := List.mem_of_getElem? (i := 693) (by decide +kernel)
theorem fl_RX9_44 : Cond.fieldLink RX9 44 "MustardTreatyModel" "seenHeat" "[I" ∈ lw_tbl := List.mem_of_getElem? (i := 694) (by decide +kernel)
theorem fl_RX9_47 : Cond.fieldLink RX9 47 "MustardTreatyModel" "seenTears" "[I" ∈ lw_tbl := List.mem_of_getElem? (i := 695) (by decide +kernel)
theorem fl_RX9_211 : Cond.fieldLink RX9 211 "MustardTreatyModel" "seed" "J" ∈ lw_tbl := List.mem_of_getElem? (i := 696) (by decide +kernel)
theorem fl_RX9_157 : Cond.fieldLink RX9 157 "MustardTreatyModel" "bestWorth" "I" ∈ lw_tbl := List.mem_of_getElem? (i := 697) (by decide +kernel)
theorem fl_RX9_160 : Cond.fieldLink RX9 160 "MustardTreatyModel" "bestRow" "I" ∈ lw_tbl := List.mem_of_getElem? (i := 698) (by decide +kernel)
theorem fl_RX9_199 : Cond.fieldLink RX9 199 "MustardTreatyModel" "restMany" "I" ∈ lw_tbl := List.mem_of_getElem? (i := 699) (by decide +kernel)
theorem fl_RX9_202 : Cond.fieldLink RX9 202 "MustardTreatyModel" "restFirst" "I" ∈ lw_tbl := List.mem_of_getElem? (i := 700) (by decide +kernel)
theorem fl_RX9_50 : Cond.fieldLink RX9 50 "MustardTreatyModel" "value" "[I" ∈ lw_tbl := List.mem_of_getElem? (i := 701) (by decide +kernel)
theorem ml_RL_17 : Cond.methodLink RL 17 yX9_write ∈ lw_tbl := List.mem_of_getElem? (i := 763) (by decide +kernel)
theorem im_yX9_write : Cond.instanceMethod yX9_write ∈ lw_tbl := List.mem_of_getElem? (i := 764) (by decide +kernel)
theorem se_yX9_write : Cond.selects RX9 yX9_write yX9_write ∈ lw_tbl := List.mem_of_getElem? (i := 765) (by decide +kernel)
theorem cd_yX9_write : Cond.code yX9_write cX9_write 2 (some .int) ∈ lw_tbl := List.mem_of_getElem? (i := 766) (by decide +kernel)
theorem kl_RX9_67 : Cond.constantLong RX9 67 255 ∈ lw_tbl := List.mem_of_getElem? (i := 767) (by decide +kernel)
theorem ml_RX9_60 : Cond.methodLink RX9 60 yX9_in ∈ lw_tbl := List.mem_of_getElem? (i := 768) (by decide +kernel)
theorem st_yX9_in : Cond.static yX9_in ∈ lw_tbl := List.mem_of_getElem? (i := 769) (by decide +kernel)
theorem cd_yX9_in : Cond.code yX9_in cX9_in 6 (some .boolean) ∈ lw_tbl := List.mem_of_getElem? (i := 770) (by decide +kernel)
theorem ml_RL_22 : Cond.methodLink RL 22 yX9_wipe ∈ lw_tbl := List.mem_of_getElem? (i := 771) (by decide +kernel)
theorem im_yX9_wipe : Cond.instanceMethod yX9_wipe ∈ lw_tbl := List.mem_of_getElem? (i := 772) (by decide +kernel)
theorem se_yX9_wipe : Cond.selects RX9 yX9_wipe yX9_wipe ∈ lw_tbl := List.mem_of_getElem? (i := 773) (by decide +kernel)
theorem cd_yX9_wipe : Cond.code yX9_wipe cX9_wipe 2 (some .int) ∈ lw_tbl := List.mem_of_getElem? (i := 774) (by decide +kernel)
theorem ml_RL_26 : Cond.methodLink RL 26 yX9_fault ∈ lw_tbl := List.mem_of_getElem? (i := 775) (by decide +kernel)
theorem im_yX9_fault : Cond.instanceMethod yX9_fault ∈ lw_tbl := List.mem_of_getElem? (i := 776) (by decide +kernel)
theorem se_yX9_fault : Cond.selects RX9 yX9_fault yX9_fault ∈ lw_tbl := List.mem_of_getElem? (i := 777) (by decide +kernel)
theorem cd_yX9_fault : Cond.code yX9_fault cX9_fault 1 (some .int) ∈ lw_tbl := List.mem_of_getElem? (i := 778) (by decide +kernel)
theorem ml_RX9_99 : Cond.methodLink RX9 99 yX9_readTalk ∈ lw_tbl := List.mem_of_getElem? (i := 779) (by decide +kernel)
theorem im_yX9_readTalk : Cond.instanceMethod yX9_readTalk ∈ lw_tbl := List.mem_of_getElem? (i := 781) (by decide +kernel)
theorem cd_yX9_readTalk : Cond.code yX9_readTalk cX9_readTalk 1 (some .int) ∈ lw_tbl := List.mem_of_getElem? (i := 782) (by decide +kernel)
theorem ml_RX9_75 : Cond.methodLink RX9 75 yX9_figure ∈ lw_tbl := List.mem_of_getElem? (i := 783) (by decide +kernel)
theorem im_yX9_figure : Cond.instanceMethod yX9_figure ∈ lw_tbl := List.mem_of_getElem? (i := 785) (by decide +kernel)
theorem cd_yX9_figure : Cond.code yX9_figure cX9_figure 3 (some .int) ∈ lw_tbl := List.mem_of_getElem? (i := 786) (by decide +kernel)
theorem ml_RX9_96 : Cond.methodLink RX9 96 yX9_readPart ∈ lw_tbl := List.mem_of_getElem? (i := 787) (by decide +kernel)
theorem im_yX9_readPart : Cond.instanceMethod yX9_readPart ∈ lw_tbl := List.mem_of_getElem? (i := 789) (by decide +kernel)
theorem cd_yX9_readPart : Cond.code yX9_readPart cX9_readPart 2 (some .boolean) ∈ lw_tbl := List.mem_of_getElem? (i := 790) (by decide +kernel)
theorem ml_RX9_85 : Cond.methodLink RX9 85 yX9_readEnvoy ∈ lw_tbl := List.mem_of_getElem? (i := 791) (by decide +kernel)
theorem im_yX9_readEnvoy : Cond.instanceMethod yX9_readEnvoy ∈ lw_tbl := List.mem_of_getElem? (i := 793) (by decide +kernel)
theorem cd_yX9_readEnvoy : Cond.code yX9_readEnvoy cX9_readEnvoy 4 (some .boolean) ∈ lw_tbl := List.mem_of_getElem? (i := 794) (by decide +kernel)
theorem ml_RX9_88 : Cond.methodLink RX9 88 yX9_readClause ∈ lw_tbl := List.mem_of_getElem? (i := 795) (by decide +kernel)
theorem im_yX9_readClause : Cond.instanceMethod yX9_readClause ∈ lw_tbl := List.mem_of_getElem? (i := 797) (by decide +kernel)
theorem cd_yX9_readClause : Cond.code yX9_readClause cX9_readClause 4 (some .boolean) ∈ lw_tbl := List.mem_of_getElem? (i := 798) (by decide +kernel)
theorem ml_RL_30 : Cond.methodLink RL 30 yX9_talk ∈ lw_tbl := List.mem_of_getElem? (i := 799) (by decide +kernel)
theorem im_yX9_talk : Cond.instanceMethod yX9_talk ∈ lw_tbl := List.mem_of_getElem? (i := 800) (by decide +kernel)
theorem se_yX9_talk : Cond.selects RX9 yX9_talk yX9_talk ∈ lw_tbl := List.mem_of_getElem? (i := 801) (by decide +kernel)
theorem cd_yX9_talk : Cond.code yX9_talk cX9_talk 2 (some .int) ∈ lw_tbl := List.mem_of_getElem? (i := 802) (by decide +kernel)
theorem ml_RL_34 : Cond.methodLink RL 34 yX9_about ∈ lw_tbl := List.mem_of_getElem? (i := 803) (by decide +kernel)
theorem im_yX9_about : Cond.instanceMethod yX9_about ∈ lw_tbl := List.mem_of_getElem? (i := 804) (by decide +kernel)
theorem se_yX9_about : Cond.selects RX9 yX9_about yX9_about ∈ lw_tbl := List.mem_of_getElem? (i := 805) (by decide +kernel)
theorem cd_yX9_about : Cond.code yX9_about cX9_about 2 (some .int) ∈ lw_tbl := List.mem_of_getElem? (i := 806) (by decide +kernel)
theorem ml_RX9_121 : Cond.methodLink RX9 121 yX9_sayable ∈ lw_tbl := List.mem_of_getElem? (i := 807) (by decide +kernel)
theorem im_yX9_sayable : Cond.instanceMethod yX9_sayable ∈ lw_tbl := List.mem_of_getElem? (i := 809) (by decide +kernel)
theorem cd_yX9_sayable : Cond.code yX9_sayable cX9_sayable 4 (some .int) ∈ lw_tbl := List.mem_of_getElem? (i := 810) (by decide +kernel)
theorem ml_RX9_114 : Cond.methodLink RX9 114 yX9_canSay ∈ lw_tbl := List.mem_of_getElem? (i := 811) (by decide +kernel)
theorem im_yX9_canSay : Cond.instanceMethod yX9_canSay ∈ lw_tbl := List.mem_of_getElem? (i := 813) (by decide +kernel)
theorem cd_yX9_canSay : Cond.code yX9_canSay cX9_canSay 4 (some .boolean) ∈ lw_tbl := List.mem_of_getElem? (i := 814) (by decide +kernel)
theorem ml_RX9_110 : Cond.methodLink RX9 110 yX9_has ∈ lw_tbl := List.mem_of_getElem? (i := 815) (by decide +kernel)
theorem st_yX9_has : Cond.static yX9_has ∈ lw_tbl := List.mem_of_getElem? (i := 816) (by decide +kernel)
theorem cd_yX9_has : Cond.code yX9_has cX9_has 2 (some .boolean) ∈ lw_tbl := List.mem_of_getElem? (i := 817) (by decide +kernel)
theorem ml_RL_39 : Cond.methodLink RL 39 yX9_envoy ∈ lw_tbl := List.mem_of_getElem? (i := 818) (by decide +kernel)
theorem im_yX9_envoy : Cond.instanceMethod yX9_envoy ∈ lw_tbl := List.mem_of_getElem? (i := 819) (by decide +kernel)
theorem se_yX9_envoy : Cond.selects RX9 yX9_envoy yX9_envoy ∈ lw_tbl := List.mem_of_getElem? (i := 820) (by decide +kernel)
theorem cd_yX9_envoy : Cond.code yX9_envoy cX9_envoy 3 (some .int) ∈ lw_tbl := List.mem_of_getElem? (i := 821) (by decide +kernel)
theorem ml_RX9_128 : Cond.methodLink RX9 128 yX9_noEnvoy ∈ lw_tbl := List.mem_of_getElem? (i := 822) (by decide +kernel)
theorem im_yX9_noEnvoy : Cond.instanceMethod yX9_noEnvoy ∈ lw_tbl := List.mem_of_getElem? (i := 824) (by decide +kernel)
theorem cd_yX9_noEnvoy : Cond.code yX9_noEnvoy cX9_noEnvoy 2 (some .boolean) ∈ lw_tbl := List.mem_of_getElem? (i := 825) (by decide +kernel)
theorem ml_RX9_118 : Cond.methodLink RX9 118 yX9_painOf ∈ lw_tbl := List.mem_of_getElem? (i := 826) (by decide +kernel)
theorem im_yX9_painOf : Cond.instanceMethod yX9_painOf ∈ lw_tbl := List.mem_of_getElem? (i := 828) (by decide +kernel)
theorem cd_yX9_painOf : Cond.code yX9_painOf cX9_painOf 3 (some .int) ∈ lw_tbl := List.mem_of_getElem? (i := 829) (by decide +kernel)
theorem ml_RX9_106 : Cond.methodLink RX9 106 yX9_painBy ∈ lw_tbl := List.mem_of_getElem? (i := 830) (by decide +kernel)
theorem st_yX9_painBy : Cond.static yX9_painBy ∈ lw_tbl := List.mem_of_getElem? (i := 831) (by decide +kernel)
theorem cd_yX9_painBy : Cond.code yX9_painBy cX9_painBy 4 (some .int) ∈ lw_tbl := List.mem_of_getElem? (i := 832) (by decide +kernel)
theorem ml_RL_43 : Cond.methodLink RL 43 yX9_clause ∈ lw_tbl := List.mem_of_getElem? (i := 833) (by decide +kernel)
theorem im_yX9_clause : Cond.instanceMethod yX9_clause ∈ lw_tbl := List.mem_of_getElem? (i := 834) (by decide +kernel)
theorem se_yX9_clause : Cond.selects RX9 yX9_clause yX9_clause ∈ lw_tbl := List.mem_of_getElem? (i := 835) (by decide +kernel)
theorem cd_yX9_clause : Cond.code yX9_clause cX9_clause 3 (some .int) ∈ lw_tbl := List.mem_of_getElem? (i := 836) (by decide +kernel)
theorem ml_RX9_132 : Cond.methodLink RX9 132 yX9_noClause ∈ lw_tbl := List.mem_of_getElem? (i := 837) (by decide +kernel)
theorem im_yX9_noClause : Cond.instanceMethod yX9_noClause ∈ lw_tbl := List.mem_of_getElem? (i := 839) (by decide +kernel)
theorem cd_yX9_noClause : Cond.code yX9_noClause cX9_noClause 2 (some .boolean) ∈ lw_tbl := List.mem_of_getElem? (i := 840) (by decide +kernel)
theorem kl_RX9_135 : Cond.constantLong RX9 135 2 ∈ lw_tbl := List.mem_of_getElem? (i := 841) (by decide +kernel)
theorem ml_RX9_137 : Cond.methodLink RX9 137 yX9_worthOf ∈ lw_tbl := List.mem_of_getElem? (i := 842) (by decide +kernel)
theorem im_yX9_worthOf : Cond.instanceMethod yX9_worthOf ∈ lw_tbl := List.mem_of_getElem? (i := 844) (by decide +kernel)
theorem cd_yX9_worthOf : Cond.code yX9_worthOf cX9_worthOf 2 (some .int) ∈ lw_tbl := List.mem_of_getElem? (i := 845) (by decide +kernel)
theorem ml_RL_47 : Cond.methodLink RL 47 yX9_bite ∈ lw_tbl := List.mem_of_getElem? (i := 846) (by decide +kernel)
theorem im_yX9_bite : Cond.instanceMethod yX9_bite ∈ lw_tbl := List.mem_of_getElem? (i := 847) (by decide +kernel)
theorem se_yX9_bite : Cond.selects RX9 yX9_bite yX9_bite ∈ lw_tbl := List.mem_of_getElem? (i := 848) (by decide +kernel)
theorem cd_yX9_bite : Cond.code yX9_bite cX9_bite 1 (some .int) ∈ lw_tbl := List.mem_of_getElem? (i := 849) (by decide +kernel)
theorem ml_RX9_141 : Cond.methodLink RX9 141 yX9_note ∈ lw_tbl := List.mem_of_getElem? (i := 850) (by decide +kernel)
theorem im_yX9_note : Cond.instanceMethod yX9_note ∈ lw_tbl := List.mem_of_getElem? (i := 852) (by decide +kernel)
theorem cd_yX9_note : Cond.code yX9_note cX9_note 2 none ∈ lw_tbl := List.mem_of_getElem? (i := 853) (by decide +kernel)
theorem ml_RX9_144 : Cond.methodLink RX9 144 yX9_goBite ∈ lw_tbl := List.mem_of_getElem? (i := 854) (by decide +kernel)
theorem im_yX9_goBite : Cond.instanceMethod yX9_goBite ∈ lw_tbl := List.mem_of_getElem? (i := 856) (by decide +kernel)
theorem cd_yX9_goBite : Cond.code yX9_goBite cX9_goBite 3 none ∈ lw_tbl := List.mem_of_getElem? (i := 857) (by decide +kernel)
theorem ml_RL_51 : Cond.methodLink RL 51 yX9_say ∈ lw_tbl := List.mem_of_getElem? (i := 858) (by decide +kernel)
theorem im_yX9_say : Cond.instanceMethod yX9_say ∈ lw_tbl := List.mem_of_getElem? (i := 859) (by decide +kernel)
theorem se_yX9_say : Cond.selects RX9 yX9_say yX9_say ∈ lw_tbl := List.mem_of_getElem? (i := 860) (by decide +kernel)
theorem cd_yX9_say : Cond.code yX9_say cX9_say 2 (some .int) ∈ lw_tbl := List.mem_of_getElem? (i := 861) (by decide +kernel)
theorem ml_RL_55 : Cond.methodLink RL 55 yX9_spice ∈ lw_tbl := List.mem_of_getElem? (i := 862) (by decide +kernel)
theorem im_yX9_spice : Cond.instanceMethod yX9_spice ∈ lw_tbl := List.mem_of_getElem? (i := 863) (by decide +kernel)
theorem se_yX9_spice : Cond.selects RX9 yX9_spice yX9_spice ∈ lw_tbl := List.mem_of_getElem? (i := 864) (by decide +kernel)
theorem cd_yX9_spice : Cond.code yX9_spice cX9_spice 1 (some .int) ∈ lw_tbl := List.mem_of_getElem? (i := 865) (by decide +kernel)
theorem ml_RX9_148 : Cond.methodLink RX9 148 yX9_goSpice ∈ lw_tbl := List.mem_of_getElem? (i := 866) (by decide +kernel)
theorem st_yX9_goSpice : Cond.static yX9_goSpice ∈ lw_tbl := List.mem_of_getElem? (i := 867) (by decide +kernel)
theorem cd_yX9_goSpice : Cond.code yX9_goSpice cX9_goSpice 1 none ∈ lw_tbl := List.mem_of_getElem? (i := 868) (by decide +kernel)
theorem ml_RL_59 : Cond.methodLink RL 59 yX9_bread ∈ lw_tbl := List.mem_of_getElem? (i := 869) (by decide +kernel)
theorem im_yX9_bread : Cond.instanceMethod yX9_bread ∈ lw_tbl := List.mem_of_getElem? (i := 870) (by decide +kernel)
theorem se_yX9_bread : Cond.selects RX9 yX9_bread yX9_bread ∈ lw_tbl := List.mem_of_getElem? (i := 871) (by decide +kernel)
theorem cd_yX9_bread : Cond.code yX9_bread cX9_bread 2 (some .int) ∈ lw_tbl := List.mem_of_getElem? (i := 872) (by decide +kernel)
theorem ml_RL_63 : Cond.methodLink RL 63 yX9_undo ∈ lw_tbl := List.mem_of_getElem? (i := 873) (by decide +kernel)
theorem im_yX9_undo : Cond.instanceMethod yX9_undo ∈ lw_tbl := List.mem_of_getElem? (i := 874) (by decide +kernel)
theorem se_yX9_undo : Cond.selects RX9 yX9_undo yX9_undo ∈ lw_tbl := List.mem_of_getElem? (i := 875) (by decide +kernel)
theorem cd_yX9_undo : Cond.code yX9_undo cX9_undo 2 (some .int) ∈ lw_tbl := List.mem_of_getElem? (i := 876) (by decide +kernel)
theorem ml_RL_67 : Cond.methodLink RL 67 yX9_lasts ∈ lw_tbl := List.mem_of_getElem? (i := 877) (by decide +kernel)
theorem im_yX9_lasts : Cond.instanceMethod yX9_lasts ∈ lw_tbl := List.mem_of_getElem? (i := 878) (by decide +kernel)
theorem se_yX9_lasts : Cond.selects RX9 yX9_lasts yX9_lasts ∈ lw_tbl := List.mem_of_getElem? (i := 879) (by decide +kernel)
theorem cd_yX9_lasts : Cond.code yX9_lasts cX9_lasts 1 (some .int) ∈ lw_tbl := List.mem_of_getElem? (i := 880) (by decide +kernel)
theorem ml_RX9_154 : Cond.methodLink RX9 154 yX9_till ∈ lw_tbl := List.mem_of_getElem? (i := 881) (by decide +kernel)
theorem im_yX9_till : Cond.instanceMethod yX9_till ∈ lw_tbl := List.mem_of_getElem? (i := 883) (by decide +kernel)
theorem cd_yX9_till : Cond.code yX9_till cX9_till 3 (some .int) ∈ lw_tbl := List.mem_of_getElem? (i := 884) (by decide +kernel)
theorem ml_RX9_151 : Cond.methodLink RX9 151 yX9_begin ∈ lw_tbl := List.mem_of_getElem? (i := 885) (by decide +kernel)
theorem im_yX9_begin : Cond.instanceMethod yX9_begin ∈ lw_tbl := List.mem_of_getElem? (i := 887) (by decide +kernel)
theorem cd_yX9_begin : Cond.code yX9_begin cX9_begin 2 none ∈ lw_tbl := List.mem_of_getElem? (i := 888) (by decide +kernel)
theorem ml_RL_71 : Cond.methodLink RL 71 yX9_bears ∈ lw_tbl := List.mem_of_getElem? (i := 889) (by decide +kernel)
theorem im_yX9_bears : Cond.instanceMethod yX9_bears ∈ lw_tbl := List.mem_of_getElem? (i := 890) (by decide +kernel)
theorem se_yX9_bears : Cond.selects RX9 yX9_bears yX9_bears ∈ lw_tbl := List.mem_of_getElem? (i := 891) (by decide +kernel)
theorem cd_yX9_bears : Cond.code yX9_bears cX9_bears 2 (some .int) ∈ lw_tbl := List.mem_of_getElem? (i := 892) (by decide +kernel)
theorem ml_RL_76 : Cond.methodLink RL 76 yX9_best ∈ lw_tbl := List.mem_of_getElem? (i := 893) (by decide +kernel)
theorem im_yX9_best : Cond.instanceMethod yX9_best ∈ lw_tbl := List.mem_of_getElem? (i := 894) (by decide +kernel)
theorem se_yX9_best : Cond.selects RX9 yX9_best yX9_best ∈ lw_tbl := List.mem_of_getElem? (i := 895) (by decide +kernel)
theorem cd_yX9_best : Cond.code yX9_best cX9_best 3 (some .int) ∈ lw_tbl := List.mem_of_getElem? (i := 896) (by decide +kernel)
theorem kl_RX9_166 : Cond.constantLong RX9 166 5 ∈ lw_tbl := List.mem_of_getElem? (i := 897) (by decide +kernel)
theorem ml_RX9_168 : Cond.methodLink RX9 168 yX9_findBest ∈ lw_tbl := List.mem_of_getElem? (i := 898) (by decide +kernel)
theorem im_yX9_findBest : Cond.instanceMethod yX9_findBest ∈ lw_tbl := List.mem_of_getElem? (i := 900) (by decide +kernel)
theorem cd_yX9_findBest : Cond.code yX9_findBest cX9_findBest 9 none ∈ lw_tbl := List.mem_of_getElem? (i := 901) (by decide +kernel)
theorem ml_RX9_163 : Cond.methodLink RX9 163 yX9_power ∈ lw_tbl := List.mem_of_getElem? (i := 902) (by decide +kernel)
theorem st_yX9_power : Cond.static yX9_power ∈ lw_tbl := List.mem_of_getElem? (i := 903) (by decide +kernel)
theorem cd_yX9_power : Cond.code yX9_power cX9_power 4 (some .int) ∈ lw_tbl := List.mem_of_getElem? (i := 904) (by decide +kernel)
theorem ml_RL_80 : Cond.methodLink RL 80 yX9_hot ∈ lw_tbl := List.mem_of_getElem? (i := 905) (by decide +kernel)
theorem im_yX9_hot : Cond.instanceMethod yX9_hot ∈ lw_tbl := List.mem_of_getElem? (i := 906) (by decide +kernel)
theorem se_yX9_hot : Cond.selects RX9 yX9_hot yX9_hot ∈ lw_tbl := List.mem_of_getElem? (i := 907) (by decide +kernel)
theorem cd_yX9_hot : Cond.code yX9_hot cX9_hot 6 (some .int) ∈ lw_tbl := List.mem_of_getElem? (i := 908) (by decide +kernel)
theorem kl_RX9_172 : Cond.constantLong RX9 172 9 ∈ lw_tbl := List.mem_of_getElem? (i := 909) (by decide +kernel)
theorem ml_RL_84 : Cond.methodLink RL 84 yX9_spiceFor ∈ lw_tbl := List.mem_of_getElem? (i := 910) (by decide +kernel)
theorem im_yX9_spiceFor : Cond.instanceMethod yX9_spiceFor ∈ lw_tbl := List.mem_of_getElem? (i := 911) (by decide +kernel)
theorem se_yX9_spiceFor : Cond.selects RX9 yX9_spiceFor yX9_spiceFor ∈ lw_tbl := List.mem_of_getElem? (i := 912) (by decide +kernel)
theorem cd_yX9_spiceFor : Cond.code yX9_spiceFor cX9_spiceFor 4 (some .int) ∈ lw_tbl := List.mem_of_getElem? (i := 913) (by decide +kernel)
theorem ml_RL_88 : Cond.methodLink RL 88 yX9_judge ∈ lw_tbl := List.mem_of_getElem? (i := 914) (by decide +kernel)
theorem im_yX9_judge : Cond.instanceMethod yX9_judge ∈ lw_tbl := List.mem_of_getElem? (i := 915) (by decide +kernel)
theorem se_yX9_judge : Cond.selects RX9 yX9_judge yX9_judge ∈ lw_tbl := List.mem_of_getElem? (i := 916) (by decide +kernel)
theorem cd_yX9_judge : Cond.code yX9_judge cX9_judge 4 (some .int) ∈ lw_tbl := List.mem_of_getElem? (i := 917) (by decide +kernel)
theorem ml_RX9_176 : Cond.methodLink RX9 176 yX9_noRow ∈ lw_tbl := List.mem_of_getElem? (i := 918) (by decide +kernel)
theorem st_yX9_noRow : Cond.static yX9_noRow ∈ lw_tbl := List.mem_of_getElem? (i := 919) (by decide +kernel)
theorem cd_yX9_noRow : Cond.code yX9_noRow cX9_noRow 4 (some .boolean) ∈ lw_tbl := List.mem_of_getElem? (i := 920) (by decide +kernel)
theorem kl_RX9_174 : Cond.constantLong RX9 174 6 ∈ lw_tbl := List.mem_of_getElem? (i := 921) (by decide +kernel)
theorem ml_RX9_179 : Cond.methodLink RX9 179 yX9_does ∈ lw_tbl := List.mem_of_getElem? (i := 922) (by decide +kernel)
theorem im_yX9_does : Cond.instanceMethod yX9_does ∈ lw_tbl := List.mem_of_getElem? (i := 924) (by decide +kernel)
theorem cd_yX9_does : Cond.code yX9_does cX9_does 3 (some .boolean) ∈ lw_tbl := List.mem_of_getElem? (i := 925) (by decide +kernel)
theorem ml_RL_92 : Cond.methodLink RL 92 yX9_share ∈ lw_tbl := List.mem_of_getElem? (i := 926) (by decide +kernel)
theorem im_yX9_share : Cond.instanceMethod yX9_share ∈ lw_tbl := List.mem_of_getElem? (i := 927) (by decide +kernel)
theorem se_yX9_share : Cond.selects RX9 yX9_share yX9_share ∈ lw_tbl := List.mem_of_getElem? (i := 928) (by decide +kernel)
theorem cd_yX9_share : Cond.code yX9_share cX9_share 6 (some .int) ∈ lw_tbl := List.mem_of_getElem? (i := 929) (by decide +kernel)
theorem ml_RX9_185 : Cond.methodLink RX9 185 yX9_many ∈ lw_tbl := List.mem_of_getElem? (i := 930) (by decide +kernel)
theorem st_yX9_many : Cond.static yX9_many ∈ lw_tbl := List.mem_of_getElem? (i := 931) (by decide +kernel)
theorem cd_yX9_many : Cond.code yX9_many cX9_many 3 (some .int) ∈ lw_tbl := List.mem_of_getElem? (i := 932) (by decide +kernel)
theorem ml_RX9_188 : Cond.methodLink RX9 188 yX9_ways ∈ lw_tbl := List.mem_of_getElem? (i := 933) (by decide +kernel)
theorem st_yX9_ways : Cond.static yX9_ways ∈ lw_tbl := List.mem_of_getElem? (i := 934) (by decide +kernel)
theorem cd_yX9_ways : Cond.code yX9_ways cX9_ways 3 (some .int) ∈ lw_tbl := List.mem_of_getElem? (i := 935) (by decide +kernel)
theorem ml_RX9_191 : Cond.methodLink RX9 191 yX9_fraction ∈ lw_tbl := List.mem_of_getElem? (i := 936) (by decide +kernel)
theorem st_yX9_fraction : Cond.static yX9_fraction ∈ lw_tbl := List.mem_of_getElem? (i := 937) (by decide +kernel)
theorem cd_yX9_fraction : Cond.code yX9_fraction cX9_fraction 4 (some .int) ∈ lw_tbl := List.mem_of_getElem? (i := 938) (by decide +kernel)
theorem ml_RX9_182 : Cond.methodLink RX9 182 yX9_divisor ∈ lw_tbl := List.mem_of_getElem? (i := 939) (by decide +kernel)
theorem st_yX9_divisor : Cond.static yX9_divisor ∈ lw_tbl := List.mem_of_getElem? (i := 940) (by decide +kernel)
theorem cd_yX9_divisor : Cond.code yX9_divisor cX9_divisor 5 (some .int) ∈ lw_tbl := List.mem_of_getElem? (i := 941) (by decide +kernel)
theorem ml_RL_97 : Cond.methodLink RL 97 yX9_see ∈ lw_tbl := List.mem_of_getElem? (i := 942) (by decide +kernel)
theorem im_yX9_see : Cond.instanceMethod yX9_see ∈ lw_tbl := List.mem_of_getElem? (i := 943) (by decide +kernel)
theorem se_yX9_see : Cond.selects RX9 yX9_see yX9_see ∈ lw_tbl := List.mem_of_getElem? (i := 944) (by decide +kernel)
theorem cd_yX9_see : Cond.code yX9_see cX9_see 4 (some .int) ∈ lw_tbl := List.mem_of_getElem? (i := 945) (by decide +kernel)
theorem kl_RX9_195 : Cond.constantLong RX9 195 3 ∈ lw_tbl := List.mem_of_getElem? (i := 946) (by decide +kernel)
theorem kl_RX9_197 : Cond.constantLong RX9 197 10 ∈ lw_tbl := List.mem_of_getElem? (i := 947) (by decide +kernel)
theorem ml_RL_101 : Cond.methodLink RL 101 yX9_unsee ∈ lw_tbl := List.mem_of_getElem? (i := 948) (by decide +kernel)
theorem im_yX9_unsee : Cond.instanceMethod yX9_unsee ∈ lw_tbl := List.mem_of_getElem? (i := 949) (by decide +kernel)
theorem se_yX9_unsee : Cond.selects RX9 yX9_unsee yX9_unsee ∈ lw_tbl := List.mem_of_getElem? (i := 950) (by decide +kernel)
theorem cd_yX9_unsee : Cond.code yX9_unsee cX9_unsee 2 (some .int) ∈ lw_tbl := List.mem_of_getElem? (i := 951) (by decide +kernel)
theorem ml_RL_105 : Cond.methodLink RL 105 yX9_palates ∈ lw_tbl := List.mem_of_getElem? (i := 952) (by decide +kernel)
theorem im_yX9_palates : Cond.instanceMethod yX9_palates ∈ lw_tbl := List.mem_of_getElem? (i := 953) (by decide +kernel)
theorem se_yX9_palates : Cond.selects RX9 yX9_palates yX9_palates ∈ lw_tbl := List.mem_of_getElem? (i := 954) (by decide +kernel)
theorem cd_yX9_palates : Cond.code yX9_palates cX9_palates 6 (some .int) ∈ lw_tbl := List.mem_of_getElem? (i := 955) (by decide +kernel)
theorem ml_RL_109 : Cond.methodLink RL 109 yX9_rests ∈ lw_tbl := List.mem_of_getElem? (i := 956) (by decide +kernel)
theorem im_yX9_rests : Cond.instanceMethod yX9_rests ∈ lw_tbl := List.mem_of_getElem? (i := 957) (by decide +kernel)
theorem se_yX9_rests : Cond.selects RX9 yX9_rests yX9_rests ∈ lw_tbl := List.mem_of_getElem? (i := 958) (by decide +kernel)
theorem cd_yX9_rests : Cond.code yX9_rests cX9_rests 4 (some .int) ∈ lw_tbl := List.mem_of_getElem? (i := 959) (by decide +kernel)
theorem ml_RX9_208 : Cond.methodLink RX9 208 yX9_findRests ∈ lw_tbl := List.mem_of_getElem? (i := 960) (by decide +kernel)
theorem im_yX9_findRests : Cond.instanceMethod yX9_findRests ∈ lw_tbl := List.mem_of_getElem? (i := 962) (by decide +kernel)
theorem cd_yX9_findRests : Cond.code yX9_findRests cX9_findRests 7 none ∈ lw_tbl := List.mem_of_getElem? (i := 963) (by decide +kernel)
theorem ml_RX9_205 : Cond.methodLink RX9 205 yX9_lossOf ∈ lw_tbl := List.mem_of_getElem? (i := 964) (by decide +kernel)
theorem im_yX9_lossOf : Cond.instanceMethod yX9_lossOf ∈ lw_tbl := List.mem_of_getElem? (i := 966) (by decide +kernel)
theorem cd_yX9_lossOf : Cond.code yX9_lossOf cX9_lossOf 7 (some .int) ∈ lw_tbl := List.mem_of_getElem? (i := 967) (by decide +kernel)
theorem ml_RL_114 : Cond.methodLink RL 114 yX9_chance ∈ lw_tbl := List.mem_of_getElem? (i := 968) (by decide +kernel)
theorem im_yX9_chance : Cond.instanceMethod yX9_chance ∈ lw_tbl := List.mem_of_getElem? (i := 969) (by decide +kernel)
theorem se_yX9_chance : Cond.selects RX9 yX9_chance yX9_chance ∈ lw_tbl := List.mem_of_getElem? (i := 970) (by decide +kernel)
theorem cd_yX9_chance : Cond.code yX9_chance cX9_chance 10 (some .int) ∈ lw_tbl := List.mem_of_getElem? (i := 971) (by decide +kernel)
theorem ml_RL_121 : Cond.methodLink RL 121 yX9_seed ∈ lw_tbl := List.mem_of_getElem? (i := 972) (by decide +kernel)
theorem im_yX9_seed : Cond.instanceMethod yX9_seed ∈ lw_tbl := List.mem_of_getElem? (i := 973) (by decide +kernel)
theorem se_yX9_seed : Cond.selects RX9 yX9_seed yX9_seed ∈ lw_tbl := List.mem_of_getElem? (i := 974) (by decide +kernel)
theorem cd_yX9_seed : Cond.code yX9_seed cX9_seed 5 (some .long) ∈ lw_tbl := List.mem_of_getElem? (i := 975) (by decide +kernel)
theorem ml_RL_125 : Cond.methodLink RL 125 yX9_talks ∈ lw_tbl := List.mem_of_getElem? (i := 976) (by decide +kernel)
theorem im_yX9_talks : Cond.instanceMethod yX9_talks ∈ lw_tbl := List.mem_of_getElem? (i := 977) (by decide +kernel)
theorem se_yX9_talks : Cond.selects RX9 yX9_talks yX9_talks ∈ lw_tbl := List.mem_of_getElem? (i := 978) (by decide +kernel)
theorem cd_yX9_talks : Cond.code yX9_talks cX9_talks 5 (some .int) ∈ lw_tbl := List.mem_of_getElem? (i := 979) (by decide +kernel)
theorem kl_RX9_215 : Cond.constantLong RX9 215 30 ∈ lw_tbl := List.mem_of_getElem? (i := 980) (by decide +kernel)
theorem kl_RX9_217 : Cond.constantLong RX9 217 6364136223846793005 ∈ lw_tbl := List.mem_of_getElem? (i := 981) (by decide +kernel)
theorem kl_RX9_219 : Cond.constantLong RX9 219 1442695040888963407 ∈ lw_tbl := List.mem_of_getElem? (i := 982) (by decide +kernel)
theorem kl_RX9_221 : Cond.constantLong RX9 221 12 ∈ lw_tbl := List.mem_of_getElem? (i := 983) (by decide +kernel)
theorem ml_RL_129 : Cond.methodLink RL 129 yX9_keep ∈ lw_tbl := List.mem_of_getElem? (i := 984) (by decide +kernel)
theorem im_yX9_keep : Cond.instanceMethod yX9_keep ∈ lw_tbl := List.mem_of_getElem? (i := 985) (by decide +kernel)
theorem se_yX9_keep : Cond.selects RX9 yX9_keep yX9_keep ∈ lw_tbl := List.mem_of_getElem? (i := 986) (by decide +kernel)
theorem cd_yX9_keep : Cond.code yX9_keep cX9_keep 3 (some .int) ∈ lw_tbl := List.mem_of_getElem? (i := 987) (by decide +kernel)
theorem ml_RL_133 : Cond.methodLink RL 133 yX9_again ∈ lw_tbl := List.mem_of_getElem? (i := 988) (by decide +kernel)
theorem im_yX9_again : Cond.instanceMethod yX9_again ∈ lw_tbl := List.mem_of_getElem? (i := 989) (by decide +kernel)
theorem se_yX9_again : Cond.selects RX9 yX9_again yX9_again ∈ lw_tbl := List.mem_of_getElem? (i := 990) (by decide +kernel)
theorem cd_yX9_again : Cond.code yX9_again cX9_again 3 (some .int) ∈ lw_tbl := List.mem_of_getElem? (i := 991) (by decide +kernel)
theorem kl_RL_115 : Cond.constantLong RL 115 4294967295 ∈ lw_tbl := List.mem_of_getElem? (i := 992) (by decide +kernel)
end
section
/-- the words that stay true as the machine goes on -/
def lw_g : List Cond := lw_tbl.filter goodWord
theorem lgm {w : Cond} (h : w ∈ lw_tbl) (hg : goodWord w = true) : w ∈ lw_g := List.mem_filter.mpr ⟨h, hg⟩
theorem lg_lays {C : String} {T : u_T} {N : Nat} (h : ∀ w ∈ u_ws C T N, w ∈ lw_tbl) : ∀ w ∈ u_ws C T N, w ∈ lw_g := by
  intro w hw
  refine lgm (h w hw) ?_
  obtain ⟨k, -, rfl⟩ := List.mem_map.mp hw
  unfold u_lay
  split <;> rfl
/-! the world: 85 cells by number, each cell's numbers in a row of naturals; rows may serve several cells -/
abbrev Hp : Type := (Nat → Nat → Nat) × (Nat → Int64)
abbrev Vt : Type := Launch × va_G × (ClassId × ClassId × ClassId) × (Nat → Nat) × (Nat → Prop)
def rf (V : Vt) (k : Nat) : Value := .ref (V.2.2.2.1 k)
def tb (i : Nat) : Nat := 2 * i + 37
def tr (i : Nat) : Nat := i + 100
def tof (j : Nat) : Nat := if j < 4 then 2 + j else 10 + j
def ai (V : Vt) (n : Nat) (f : Nat → Nat) : va_E := .inl (V.2.2.1.1, n, .inl (fun j => nI (f j)))
def az (V : Vt) (n : Nat) (f : Nat → Nat) : va_E := .inl (V.2.2.1.2.1, n, .inl (fun j => nI (f j)))
def aT (V : Vt) (n : Nat) (g : Nat → Nat) : va_E := .inl (V.2.2.1.2.2, n, .inr (.inr (.inr (.inr (fun j => some (V.2.2.2.1 (g j)))))))
def c0 (V : Vt) (z : Nat → Int64) (f : Nat → Nat) (k : Nat) : va_E := match k with
  | 0 => .inr (8, [rf V 1, rf V 3, rf V (tb 0), rf V (tb 1), rf V 10, rf V 12, rf V 15, rf V 19, rf V 21, .long (z 0)])
  | 1 => .inr (2, [rf V 2, .int (nI (f 0))])
  | 2 => ai V 48 f
  | 3 => .inr (1, [.int (nI (f 0)), .int (nI (f 1)), .int (nI (f 2)), .int (nI (f 3)), rf V 4, rf V 5, rf V 6, rf V 7, rf V 8, rf V 9])
  | 4 => ai V 4 (fun j => f (3 * j))
  | 5 => ai V 4 (fun j => f (3 * j + 1))
  | 6 => ai V 4 (fun j => f (3 * j + 2))
  | 7 => ai V 5 (fun j => f (3 * j))
  | 8 => ai V 5 (fun j => f (3 * j + 1))
  | 9 => ai V 5 (fun j => f (3 * j + 2))
  | 10 => .inr (0, [rf V 11, .int (nI (f 1)), .int (nI (f 2))])
  | 11 => aT V 14 (fun j => tb (j + 2))
  | 12 => .inr (5, [rf V 13, rf V 14])
  | 13 => aT V 2 (fun j => tb (j + 16))
  | 14 => az V 2 f
  | 15 => .inr (4, [rf V 16, rf V 17, rf V 18, .int (nI (f 3))])
  | 16 => ai V 6 f
  | 17 => ai V 6 f
  | 18 => ai V 6 f
  | 19 => .inr (3, [rf V 3, rf V 20, .int (nI (f 2)), .int (nI (f 3)), .int (nI (f 4)), .int (nI (f 5))])
  | 20 => aT V 6 (fun j => tb (j + 18))
  | 21 => .inr (6, [rf V 3, .int (nI (f 1)), .int (nI (f 2))])
  | 22 => .inr (9, [.int (nI (f 0)), rf V 23, .int (nI (f 2)), .int (nI (f 3)), .int (nI (f 4)), rf V 24, .int (nI (f 6)), rf V 25, .int (nI (f 8)), .int (nI (f 9)), .int (nI (f 10)), rf V 26, .int (nI (f 12)), rf V 27, rf V 28, rf V 29, rf V 30, .int (nI (f 17)), rf V 31, rf V 32, .int (nI (f 20)), rf V 33, rf V 34, rf V 35, .long (z 1), .int (nI (f 25)), .int (nI (f 26)), .int (nI (f 27)), .int (nI (f 28)), rf V 36])
  | 23 => ai V 48 f
  | 24 => ai V 12 f
  | 25 => ai V 15 f
  | 26 => ai V 12 f
  | 27 => ai V 15 f
  | 28 => ai V 10 f
  | 29 => ai V 10 f
  | 30 => ai V 140 f
  | 31 => ai V 20 f
  | 32 => az V 2 f
  | 33 => ai V 6 f
  | 34 => ai V 6 f
  | 35 => ai V 6 f
  | 36 => ai V 16 f
  | _ => ai V 0 f
def cl (V : Vt) (z : Nat → Int64) (k : Nat) (f : Nat → Nat) : va_E :=
  if k < 37 then c0 V z f k else if (k - 37) % 2 = 0 then .inr (7, [rf V 3, .int (nI (f 0)), .int (nI (f 1)), .int (nI (f 6)), .int (nI (f 7)), .int (nI (f 8)), .int (nI (f 9)), rf V (k + 1)]) else ai V 4 (fun j => f (tof j))
def rw5 (k : Nat) : Nat := if k < 4 then k else if k < 7 then 4 else if k < 10 then 7 else k
def rw (k : Nat) : Nat := if k < 37 then rw5 k else (k - 37) / 2 + 100
def ow (r off : Nat) : Nat := if r < 100 then (if r = 4 then 4 + off % 3 else if r = 7 then 7 + off % 3 else r) else if (2 ≤ off ∧ off < 6) ∨ 14 ≤ off then 2 * (r - 100) + 38 else 2 * (r - 100) + 37
theorem cl_tb (V : Vt) (z : Nat → Int64) (i : Nat) (f : Nat → Nat) : cl V z (tb i) f = .inr (7, [rf V 3, .int (nI (f 0)), .int (nI (f 1)), .int (nI (f 6)), .int (nI (f 7)), .int (nI (f 8)), .int (nI (f 9)), rf V (tb i + 1)]) := by
  unfold cl tb
  rw [if_neg (by omega), if_pos (by omega)]
theorem cl_tt (V : Vt) (z : Nat → Int64) (i : Nat) (f : Nat → Nat) : cl V z (tb i + 1) f = ai V 4 (fun j => f (tof j)) := by
  unfold cl tb
  rw [if_neg (by omega), if_neg (by omega)]
theorem rw_tb (i : Nat) : rw (tb i) = tr i := by unfold rw tb tr; rw [if_neg (by omega)]; omega
theorem rw_tt (i : Nat) : rw (tb i + 1) = tr i := by unfold rw tb tr; rw [if_neg (by omega)]; omega
theorem ow_tb {i off : Nat} (h : ¬ ((2 ≤ off ∧ off < 6) ∨ 14 ≤ off)) : ow (tr i) off = tb i := by
  unfold ow tr tb
  rw [if_neg (by omega), if_neg h]
  omega
theorem ow_tt (i j : Nat) : ow (tr i) (tof j) = tb i + 1 := by
  unfold ow tr tb tof
  rw [if_neg (by omega), if_pos (by split <;> omega)]
  omega
theorem tof_inj {a b : Nat} (h : tof a = tof b) : a = b := by
  unfold tof at h
  split at h <;> split at h <;> omega
theorem c0_dep (V : Vt) (z : Nat → Int64) {k : Nat} (hk : k < 37) {f g : Nat → Nat} (h : ∀ off, ow (rw5 k) off = k → f off = g off) : c0 V z f k = c0 V z g k := by
  match k, hk, h with
  | 0, _, h => exact rfl
  | 1, _, h => exact by simp only [c0, h 0 rfl]
  | 2, _, h => exact congrArg (ai V 48) (funext fun j => h j rfl)
  | 3, _, h => exact by simp only [c0, h 0 rfl, h 1 rfl, h 2 rfl, h 3 rfl]
  | 4, _, h => exact congrArg (ai V 4) (funext fun j => h (3 * j) (show 4 + (3 * j) % 3 = 4 by omega))
  | 5, _, h => exact congrArg (ai V 4) (funext fun j => h (3 * j + 1) (show 4 + (3 * j + 1) % 3 = 5 by omega))
  | 6, _, h => exact congrArg (ai V 4) (funext fun j => h (3 * j + 2) (show 4 + (3 * j + 2) % 3 = 6 by omega))
  | 7, _, h => exact congrArg (ai V 5) (funext fun j => h (3 * j) (show 7 + (3 * j) % 3 = 7 by omega))
  | 8, _, h => exact congrArg (ai V 5) (funext fun j => h (3 * j + 1) (show 7 + (3 * j + 1) % 3 = 8 by omega))
  | 9, _, h => exact congrArg (ai V 5) (funext fun j => h (3 * j + 2) (show 7 + (3 * j + 2) % 3 = 9 by omega))
  | 10, _, h => exact by simp only [c0, h 1 rfl, h 2 rfl]
  | 11, _, h => exact rfl
  | 12, _, h => exact rfl
  | 13, _, h => exact rfl
  | 14, _, h => exact congrArg (az V 2) (funext fun j => h j rfl)
  | 15, _, h => exact by simp only [c0, h 3 rfl]
  | 16, _, h => exact congrArg (ai V 6) (funext fun j => h j rfl)
  | 17, _, h => exact congrArg (ai V 6) (funext fun j => h j rfl)
  | 18, _, h => exact congrArg (ai V 6) (funext fun j => h j rfl)
  | 19, _, h => exact by simp only [c0, h 2 rfl, h 3 rfl, h 4 rfl, h 5 rfl]
  | 20, _, h => exact rfl
  | 21, _, h => exact by simp only [c0, h 1 rfl, h 2 rfl]
  | 22, _, h => exact by simp only [c0, h 0 rfl, h 2 rfl, h 3 rfl, h 4 rfl, h 6 rfl, h 8 rfl, h 9 rfl, h 10 rfl, h 12 rfl, h 17 rfl, h 20 rfl, h 25 rfl, h 26 rfl, h 27 rfl, h 28 rfl]
  | 23, _, h => exact congrArg (ai V 48) (funext fun j => h j rfl)
  | 24, _, h => exact congrArg (ai V 12) (funext fun j => h j rfl)
  | 25, _, h => exact congrArg (ai V 15) (funext fun j => h j rfl)
  | 26, _, h => exact congrArg (ai V 12) (funext fun j => h j rfl)
  | 27, _, h => exact congrArg (ai V 15) (funext fun j => h j rfl)
  | 28, _, h => exact congrArg (ai V 10) (funext fun j => h j rfl)
  | 29, _, h => exact congrArg (ai V 10) (funext fun j => h j rfl)
  | 30, _, h => exact congrArg (ai V 140) (funext fun j => h j rfl)
  | 31, _, h => exact congrArg (ai V 20) (funext fun j => h j rfl)
  | 32, _, h => exact congrArg (az V 2) (funext fun j => h j rfl)
  | 33, _, h => exact congrArg (ai V 6) (funext fun j => h j rfl)
  | 34, _, h => exact congrArg (ai V 6) (funext fun j => h j rfl)
  | 35, _, h => exact congrArg (ai V 6) (funext fun j => h j rfl)
  | 36, _, h => exact congrArg (ai V 16) (funext fun j => h j rfl)
  | k + 37, hk, _ => exact absurd hk (by omega)
/-- a cell's numbers are its own -/
theorem cl_dep (V : Vt) (z : Nat → Int64) {k : Nat} {f g : Nat → Nat} (h : ∀ off, ow (rw k) off = k → f off = g off) : cl V z k f = cl V z k g := by
  by_cases hk : k < 37
  · have e1 : cl V z k f = c0 V z f k := if_pos hk
    have e2 : cl V z k g = c0 V z g k := if_pos hk
    rw [e1, e2]
    refine c0_dep V z hk (fun off ho => h off ?_)
    rw [show rw k = rw5 k from if_pos hk]
    exact ho
  · obtain ⟨i, hi⟩ : ∃ i, k = tb i ∨ k = tb i + 1 := ⟨(k - 37) / 2, by unfold tb; omega⟩
    rcases hi with rfl | rfl
    · rw [rw_tb] at h
      rw [cl_tb, cl_tb, h 0 (ow_tb (by omega)), h 1 (ow_tb (by omega)), h 6 (ow_tb (by omega)), h 7 (ow_tb (by omega)), h 8 (ow_tb (by omega)), h 9 (ow_tb (by omega))]
    · rw [rw_tt] at h
      rw [cl_tt, cl_tt, funext (fun j => h (tof j) (ow_tt i j))]
def sR (h : Hp) (r : Nat) (f : Nat → Nat) : Hp := (fun q => if q = r then f else h.1 q, h.2)
def up (f : Nat → Nat) (o v : Nat) : Nat → Nat := fun j => if j = o then v else f j
def sL (h : Hp) (i : Nat) (v : Int64) : Hp := (h.1, fun q => if q = i then v else h.2 q)
theorem up_s (f : Nat → Nat) (o v : Nat) : up f o v o = v := if_pos rfl
theorem up_n {f : Nat → Nat} {o v j : Nat} (h : j ≠ o) : up f o v j = f j := if_neg h
def wd (V : Vt) (h : Hp) : va_W := (List.range 85).map (fun k => (V.2.2.2.1 k, cl V h.2 k (h.1 (rw k))))
theorem wd_at (V : Vt) (h : Hp) {k : Nat} (hk : k < 85) : (wd V h)[k]? = some (V.2.2.2.1 k, cl V h.2 k (h.1 (rw k))) := by
  unfold wd
  rw [List.getElem?_map, List.getElem?_range hk]
  rfl
theorem wd_out (V : Vt) (h : Hp) {k : Nat} (hk : 85 ≤ k) : (wd V h)[k]? = none := by
  unfold wd
  rw [List.getElem?_map, List.getElem?_eq_none (by rw [List.length_range]; exact hk)]
  rfl
theorem wd_len (V : Vt) (h : Hp) : (wd V h).length = 85 := by unfold wd; rw [List.length_map, List.length_range]
theorem wd_eq (V : Vt) {h h' : Hp} (he : ∀ k, k < 85 → cl V h.2 k (h.1 (rw k)) = cl V h'.2 k (h'.1 (rw k))) : wd V h = wd V h' := by
  refine List.ext_getElem? fun i => ?_
  by_cases hi : i < 85
  · rw [wd_at V h hi, wd_at V h' hi, he i hi]
  · rw [wd_out V h (by omega), wd_out V h' (by omega)]
theorem wd_set (V : Vt) {h h' : Hp} {k : Nat} (hk : k < 85) {e : va_E} (h1 : cl V h'.2 k (h'.1 (rw k)) = e) (h2 : ∀ i, i < 85 → i ≠ k → cl V h'.2 i (h'.1 (rw i)) = cl V h.2 i (h.1 (rw i))) : (wd V h).set k (V.2.2.2.1 k, e) = wd V h' := by
  refine List.ext_getElem? fun i => ?_
  by_cases hik : i = k
  · subst hik
    rw [List.getElem?_set_self (by rw [wd_len]; exact hk), wd_at V h' hk, h1]
  · rw [List.getElem?_set_ne (fun q => hik q.symm)]
    by_cases hi : i < 85
    · rw [wd_at V h hi, wd_at V h' hi, h2 i hi hik]
    · rw [wd_out V h (by omega), wd_out V h' (by omega)]
/-- one number of one cell -/
theorem wd_put (V : Vt) (h : Hp) {k off n : Nat} (hk : k < 85) (ho : ow (rw k) off = k) {e : va_E} (he : cl V h.2 k (up (h.1 (rw k)) off n) = e) : (wd V h).set k (V.2.2.2.1 k, e) = wd V (sR h (rw k) (up (h.1 (rw k)) off n)) := by
  refine wd_set V hk ?_ ?_
  · show cl V h.2 k (if rw k = rw k then _ else _) = e
    rw [if_pos rfl]
    exact he
  · intro i hi hik
    show cl V h.2 i (if rw i = rw k then _ else _) = _
    by_cases hr : rw i = rw k
    · rw [if_pos hr, hr]
      refine cl_dep V h.2 fun o hoo => up_n ?_
      intro q
      subst q
      rw [hr, ho] at hoo
      exact hik hoo.symm
    · rw [if_neg hr]
/-- the locals by their places -/
def asl : Nat → List (Option Value) → List (Nat × Value)
  | _, [] => []
  | i, none :: t => asl (i + 1) t
  | i, some v :: t => (i, v) :: asl (i + 1) t
theorem asl_mem : ∀ (lv : List (Option Value)) (k i : Nat) (v : Value), (i, v) ∈ asl k lv ↔ ∃ j, i = k + j ∧ lv[j]? = some (some v)
  | [], k, i, v => by simp [asl]
  | none :: t, k, i, v => by
    show (i, v) ∈ asl (k + 1) t ↔ _
    rw [asl_mem t (k + 1) i v]
    constructor
    · rintro ⟨j, rfl, hj⟩
      exact ⟨j + 1, by omega, by rw [List.getElem?_cons_succ]; exact hj⟩
    · rintro ⟨j, rfl, hj⟩
      cases j with
      | zero => simp at hj
      | succ j => exact ⟨j, by omega, by rw [List.getElem?_cons_succ] at hj; exact hj⟩
  | some w :: t, k, i, v => by
    show (i, v) ∈ (k, w) :: asl (k + 1) t ↔ _
    rw [List.mem_cons, asl_mem t (k + 1) i v]
    constructor
    · rintro (hq | ⟨j, rfl, hj⟩)
      · obtain ⟨rfl, rfl⟩ := Prod.mk.inj hq
        exact ⟨0, rfl, rfl⟩
      · exact ⟨j + 1, by omega, by rw [List.getElem?_cons_succ]; exact hj⟩
    · rintro ⟨j, rfl, hj⟩
      cases j with
      | zero =>
        left
        rw [List.getElem?_cons_zero] at hj
        cases hj
        rfl
      | succ j => exact Or.inr ⟨j, by omega, by rw [List.getElem?_cons_succ] at hj; exact hj⟩
theorem asl_at {ls : Array Slot} {nL : Nat} {lv : List (Option Value)} (h : lv_has ls nL (asl 0 lv)) {i : Nat} {v : Value} (hv : lv[i]? = some (some v)) : ls[i]? = some (.val v) := h.2.2 (i, v) ((asl_mem lv 0 i v).mpr ⟨i, by omega, hv⟩)
def catOK : Option Value → Bool
  | none => true
  | some v => v.category == 1
theorem asl_st {ls : Array Slot} {nL : Nat} {lv lv' : List (Option Value)} {i : Nat} {v : Value} (h : lv_has ls nL ((i, v) :: (asl 0 lv).filter (fun q => !(q.1 == i) && !(q.1 + 1 == i && q.2.category == 2)))) (he : lv.set i (some v) = lv') (hi : i < lv.length) (hc : ∀ j w, j + 1 = i → lv[j]? = some (some w) → w.category ≠ 2) : lv_has ls nL (asl 0 lv') := by
  refine ⟨h.1, h.2.1, fun q hq => h.2.2 q ?_⟩
  obtain ⟨a, w⟩ := q
  obtain ⟨j, rfl, hj⟩ := (asl_mem lv' 0 a w).mp hq
  subst he
  rw [Nat.zero_add]
  by_cases hji : j = i
  · subst hji
    rw [List.getElem?_set_self hi] at hj
    cases hj
    exact List.mem_cons_self
  · rw [List.getElem?_set_ne (fun q => hji q.symm)] at hj
    refine List.mem_cons_of_mem _ (List.mem_filter.mpr ⟨(asl_mem lv 0 j w).mpr ⟨j, by omega, hj⟩, ?_⟩)
    have h1 : (j == i) = false := by simpa using hji
    have h2 : (j + 1 == i && w.category == 2) = false := by
      by_cases hq2 : j + 1 = i
      · have := hc j w hq2 hj
        simp [this]
      · simp [hq2]
    simp [h1, h2]
theorem asl_sub {ls : Array Slot} {nL : Nat} {lv lv' : List (Option Value)} (h : lv_has ls nL (asl 0 lv)) (hs : ∀ (i : Nat) (v : Value), lv'[i]? = some (some v) → lv[i]? = some (some v)) : lv_has ls nL (asl 0 lv') := by
  refine ⟨h.1, h.2.1, fun q hq => h.2.2 q ?_⟩
  obtain ⟨a, w⟩ := q
  obtain ⟨j, rfl, hj⟩ := (asl_mem lv' 0 a w).mp hq
  exact (asl_mem lv 0 _ w).mpr ⟨j, rfl, hs j w hj⟩
/-! the judgement of a walk: from here on, at this place of this method, with these locals, this stack and these numbers, the method returns as 'post' says -/
def Kx (V : Vt) (s : State) : Prop := va_K V.2.1 vwCl [(V.2.2.1.1, .int), (V.2.2.1.2.1, .boolean), (V.2.2.1.2.2, .object RX7)] s
def Cx (V : Vt) (E : State → Prop) (d : Nat) (own : String) (cc : ByteArray) (nL : Nat) (rt : Option FieldType) (p : Program) (s : State) (m : MethodId) (args : Array Value) (meth : Method) (c : Code) (R : Room) : Prop :=
  p.tables.exec = Jvm.exec ∧ c.code = cc ∧ c.maxLocals = nL ∧ s.vm.findClass own = some m.cls ∧ (∀ w ∈ lw_g, w.before args s = true) ∧ meth.sig.returnType = rt ∧ meth.locks = false ∧ Kx V s ∧ (∀ h, va_D V.2.2.2.2 (wd V h)) ∧ d ≤ R.frames ∧ 60 * d ≤ R.locals ∧ E s
def Rx (V : Vt) (cc : ByteArray) (rt : Option FieldType) (post : Option Value → Hp → Prop) (p : Program) (e : Env) (R : Room) (s : State) (m : MethodId) (args : Array Value) (below : List Frame) (meth : Method) (c : Code) (cells slots : Nat) (Q : State → Prop) : Prop :=
  (∀ (pc : Nat) (ls : Array Slot) (x : Int32) (h : Hp) (H : Heap) (locs : List Loc) (ty : FieldType), decode cc pc = .ok (.ireturn, 1) → rt = some ty → narrow ty (.int x) = .int x → post (some (.int x)) h → va_P V.2.1 vwCl (wd V h) H → va_S V.2.2.2.2 s.heap H locs → W p V.1 e R s m args below meth c H locs cells slots Q (F0 m pc ls [.int x])) ∧
  (∀ (pc : Nat) (ls : Array Slot) (x : Int64) (h : Hp) (H : Heap) (locs : List Loc), decode cc pc = .ok (.lreturn, 1) → rt = some .long → post (some (.long x)) h → va_P V.2.1 vwCl (wd V h) H → va_S V.2.2.2.2 s.heap H locs → W p V.1 e R s m args below meth c H locs cells slots Q (F0 m pc ls [.long x])) ∧
  (∀ (pc : Nat) (ls : Array Slot) (h : Hp) (H : Heap) (locs : List Loc), decode cc pc = .ok (.return_, 1) → rt = none → post none h → va_P V.2.1 vwCl (wd V h) H → va_S V.2.2.2.2 s.heap H locs → W p V.1 e R s m args below meth c H locs cells slots Q (F0 m pc ls []))
def G (V : Vt) (E : State → Prop) (d : Nat) (own : String) (cc : ByteArray) (nL : Nat) (rt : Option FieldType) (pc : Nat) (lv : List (Option Value)) (st : List Value) (h : Hp) (post : Option Value → Hp → Prop) : Prop :=
  ∀ (p : Program) (e : Env) (s : State) (m : MethodId) (args : Array Value) (below : List Frame) (meth : Method) (c : Code) (R : Room) (H : Heap) (locs : List Loc) (ls : Array Slot) (cells slots : Nat) (Q : State → Prop),
    Cx V E d own cc nL rt p s m args meth c R → Rx V cc rt post p e R s m args below meth c cells slots Q → va_P V.2.1 vwCl (wd V h) H → va_S V.2.2.2.2 s.heap H locs → lv_has ls nL (asl 0 lv) → (cells ≤ R.cells ∧ slots ≤ R.slots) → W p V.1 e R s m args below meth c H locs cells slots Q (F0 m pc ls st)
def T0 : State → Prop := fun _ => True
/-- a method's contract, from these numbers -/
def rm (d : Nat) : Room := { frames := d, cells := 0, slots := 0, locals := 60 * d }
def Qp (V : Vt) (post : Option Value → Hp → Prop) : Array Value → State → Outcome → State → Prop := fun _ st o t => (∃ (v : Option Value) (h' : Hp), o = .returned v ∧ post v h' ∧ va_P V.2.1 vwCl (wd V h') t.heap) ∧ va_F V.2.2.2.2 st t
def Pp (V : Vt) (av : List Value) (h : Hp) : Array Value → State → Prop := va_Pc av (fun U => (∀ h, va_D V.2.2.2.2 (wd V h)) ∧ va_P V.2.1 vwCl (wd V h) U.heap ∧ Kx V U)
def Mt (V : Vt) (d : Nat) (y : MethodName) (cc : ByteArray) (nL : Nat) (rt : Option FieldType) (av : List Value) (h : Hp) (post : Option Value → Hp → Prop) : Prop :=
  Met V.1 y (.code y cc nL rt :: lw_g) (rm d) (Pp V av h) (Qp V post) 0 0 V.2.2.2.2
theorem Pp_blind (V : Vt) (av : List Value) (h : Hp) : FrameBlind (Pp V av h) := fun a U g mk q => by
  obtain ⟨q0, qD, qP, qK⟩ := q
  exact ⟨q0, qD, qP, va_K.moved (u := U) (U := U.calling g mk a) (Vm.Alike.refl U.vm) qK⟩
def Rti (V : Vt) (d : Nat) (y : MethodName) (cc : ByteArray) (nL : Nat) (rt : Option FieldType) (av : List Value) (h : Hp) (x : Int32) (h' : Hp) : Prop := Mt V d y cc nL rt av h (fun v g => v = some (.int x) ∧ g = h')
def Rtl (V : Vt) (d : Nat) (y : MethodName) (cc : ByteArray) (nL : Nat) (rt : Option FieldType) (av : List Value) (h : Hp) (x : Int64) (h' : Hp) : Prop := Mt V d y cc nL rt av h (fun v g => v = some (.long x) ∧ g = h')
def Rtv (V : Vt) (d : Nat) (y : MethodName) (cc : ByteArray) (nL : Nat) (rt : Option FieldType) (av : List Value) (h : Hp) (h' : Hp) : Prop := Mt V d y cc nL rt av h (fun v g => v = none ∧ g = h')
theorem lw_code {y : MethodName} {cc : ByteArray} {nL : Nat} {rt : Option FieldType} (hc : Cond.code y cc nL rt ∈ lw_tbl) : GoodIn lw_g (.code y cc nL rt :: lw_g) := by
  intro w hw
  have hm : w ∈ lw_g := by
    rcases List.mem_cons.mp hw with rfl | h
    · exact lgm hc rfl
    · exact h
  exact ⟨hm, good_of_word (List.mem_filter.mp hm).2⟩
/-- a contract out of its walk -/
theorem Mt_of {V : Vt} {d : Nat} {y : MethodName} {cc : ByteArray} {nL : Nat} {rt : Option FieldType} {av : List Value} {h : Hp} {post : Option Value → Hp → Prop} (lv : List (Option Value)) (hy : plainName y.cls = true) (hlen : (lg_sl av).length ≤ nL) (hlv : ∀ q ∈ asl 0 lv, q ∈ lv_args 0 av)
    (k : G V T0 d y.cls cc nL rt 0 lv [] h post) : Mt V d y cc nL rt av h post := by
  refine Met.ofW (cc := cc) (maxL := nL) (ret := rt) hy rfl ?_
  intro p e s m args below meth c s₁ B hml hv
  obtain ⟨rfl, hD, hP, hK⟩ := hv
  have hts0 := atoms_spec (ws := .code y cc nL rt :: lw_g) B.pre
  have hown : s.vm.findClass y.cls = some m.cls := findClass_of_methodNamed B.named
  have hlocks := B.notSynchronized
  have hl := lv_entry av (n := nL) hlen
  rw [lg_entry_eq]
  generalize (lg_sl av ++ List.replicate (nL - (lg_sl av).length) Slot.unset).toArray = ls at hl ⊢
  refine k p e s m av.toArray below meth c (rm d) s.heap [] ls 0 0 _ ⟨B.exec, B.bytes, hml, hown, fun w hw => hts0 w (List.mem_cons_of_mem _ hw), B.returns, hlocks, hK, hD, Nat.le_refl _, Nat.le_refl _, trivial⟩ ⟨?_, ?_, ?_⟩ hP va_S.rf ⟨hl.1, hl.2.1, fun q hq => hl.2.2 q (hlv q hq)⟩ ⟨Nat.zero_le _, Nat.zero_le _⟩
  · intro pc ls x h' H locs ty hd hrt hn hp hP' hS
    exact W.zret (ty := ty) B.exec B.bytes (B.returns.trans hrt) hn (fun t ht hW => ⟨⟨_, h', rfl, hp, by rw [ht]; exact hP'⟩, hS.F ht⟩) hS.2.2 hd hlocks
  · intro pc ls x h' H locs hd hrt hp hP' hS
    exact W.lret B.exec B.bytes (B.returns.trans hrt) (fun t ht hW => ⟨⟨_, h', rfl, hp, by rw [ht]; exact hP'⟩, hS.F ht⟩) hS.2.2 hd hlocks
  · intro pc ls h' H locs hd hrt hp hP' hS
    exact W.vret B.exec B.bytes (B.returns.trans hrt) (fun t ht hW => ⟨⟨_, h', rfl, hp, by rw [ht]; exact hP'⟩, hS.F ht⟩) hS.2.2 hd hlocks
end
section
/-! rows of plain numbers -/
theorem fa_and (a b : Nat) : nI a &&& nI b = nI (a &&& b) := by
  apply Int32.toBitVec_inj.mp
  show BitVec.ofNat 32 a &&& BitVec.ofNat 32 b = BitVec.ofNat 32 (a &&& b)
  apply BitVec.eq_of_toNat_eq
  simp [Nat.and_mod_two_pow]
theorem fa_or (a b : Nat) : nI a ||| nI b = nI (a ||| b) := by
  apply Int32.toBitVec_inj.mp
  show BitVec.ofNat 32 a ||| BitVec.ofNat 32 b = BitVec.ofNat 32 (a ||| b)
  apply BitVec.eq_of_toNat_eq
  simp [Nat.or_mod_two_pow]
theorem fx_xor (a b : Nat) : nI a ^^^ nI b = nI (a ^^^ b) := by
  apply Int32.toBitVec_inj.mp
  show BitVec.ofNat 32 a ^^^ BitVec.ofNat 32 b = BitVec.ofNat 32 (a ^^^ b)
  apply BitVec.eq_of_toNat_eq
  simp [Nat.xor_mod_two_pow]
theorem fx_sm : ∀ n, n < 32 → ((nI n &&& 31).toBitVec.smod 32).toNat = n := by decide +kernel
theorem fx_shl {x y : Nat} (hy : y < 32) : nI x <<< (nI y &&& 31) = nI (x * 2 ^ y) := by
  have h := pk_shl (nI x) (nI y &&& 31) y (fx_sm y hy)
  apply Int32.toBitVec_inj.mp
  apply BitVec.eq_of_toNat_eq
  rw [h]
  show (BitVec.ofNat 32 x).toNat * 2 ^ y % 2 ^ 32 = (BitVec.ofNat 32 (x * 2 ^ y)).toNat
  rw [BitVec.toNat_ofNat, BitVec.toNat_ofNat, Nat.mod_mul_mod]
theorem fx_shr {x y : Nat} (hx : x < 2 ^ 31) (hy : y < 32) : nI x >>> (nI y &&& 31) = nI (x / 2 ^ y) := pk_shrN hx (nI y &&& 31) y (fx_sm y hy)
theorem fz_eq {x : Nat} (hx : x < 2 ^ 31) : (nI x = 0 → x = 0) ∧ (¬ nI x = 0 → ¬ x = 0) := by
  rw [← nI_0, nI_eq hx (by omega)]; exact ⟨id, id⟩
theorem fz_ne {x : Nat} (hx : x < 2 ^ 31) : (¬ nI x = 0 → ¬ x = 0) ∧ (nI x = 0 → x = 0) := by
  rw [← nI_0, nI_eq hx (by omega)]; exact ⟨id, id⟩
theorem fz_lt {x : Nat} (hx : x < 2 ^ 31) : (nI x < 0 → False) ∧ (¬ nI x < 0 → True) := ⟨fun q => nI_pos hx q, fun _ => trivial⟩
theorem fz_ge {x : Nat} (hx : x < 2 ^ 31) : (0 ≤ nI x → True) ∧ (¬ 0 ≤ nI x → False) := ⟨fun _ => trivial, fun q => q (nI_pos' hx)⟩
theorem fz_gt {x : Nat} (hx : x < 2 ^ 31) : (0 < nI x → 0 < x) ∧ (¬ 0 < nI x → x = 0) := by
  rw [← nI_0, nI_ltI (by omega) hx]; exact ⟨id, fun q => by omega⟩
theorem fz_le {x : Nat} (hx : x < 2 ^ 31) : (nI x ≤ 0 → x = 0) ∧ (¬ nI x ≤ 0 → 0 < x) := by
  rw [← nI_0, nI_leI hx (by omega)]; exact ⟨fun q => by omega, fun q => by omega⟩
theorem fx_max {x y : Nat} (hx : x < 2 ^ 31) (hy : y < 2 ^ 31) : (if nI x < nI y then nI y else nI x) = nI (max x y) := by
  by_cases q : x < y
  · rw [if_pos ((nI_ltI hx hy).mpr q), Nat.max_eq_right (by omega)]
  · rw [if_neg (fun w => q ((nI_ltI hx hy).mp w)), Nat.max_eq_left (by omega)]
theorem fx_min {x y : Nat} (hx : x < 2 ^ 31) (hy : y < 2 ^ 31) : (if nI y < nI x then nI y else nI x) = nI (min x y) := by
  by_cases q : y < x
  · rw [if_pos ((nI_ltI hy hx).mpr q), Nat.min_eq_right (by omega)]
  · rw [if_neg (fun w => q ((nI_ltI hy hx).mp w)), Nat.min_eq_left (by omega)]
theorem asl_cat {lv : List (Option Value)} {i : Nat} {a : Option Value} (ha : lv[i - 1]? = some a) (hc : catOK a = true) {j : Nat} {w : Value} (hj : j + 1 = i) (hw : lv[j]? = some (some w)) : w.category ≠ 2 := by
  have e : i - 1 = j := by omega
  rw [e, hw] at ha
  cases ha
  simp only [catOK, beq_iff_eq] at hc
  omega
theorem asl_stl {ls : Array Slot} {nL : Nat} {lv lv' : List (Option Value)} {i : Nat} {v : Value} (h : lv_has ls nL ((i, v) :: (asl 0 lv).filter (fun q => !(q.1 == i) && (!(q.1 == i + 1) && !(q.1 + 1 == i && q.2.category == 2))))) (he : (lv.set i (some v)).set (i + 1) none = lv') (hi : i + 1 < lv.length) (hc : ∀ j w, j + 1 = i → lv[j]? = some (some w) → w.category ≠ 2) : lv_has ls nL (asl 0 lv') := by
  refine ⟨h.1, h.2.1, fun q hq => h.2.2 q ?_⟩
  obtain ⟨a, w⟩ := q
  obtain ⟨j, rfl, hj⟩ := (asl_mem lv' 0 a w).mp hq
  subst he
  rw [Nat.zero_add]
  by_cases hji2 : j = i + 1
  · subst hji2
    rw [List.getElem?_set_self (by rw [List.length_set]; exact hi)] at hj
    cases hj
  · rw [List.getElem?_set_ne (fun q => hji2 q.symm)] at hj
    by_cases hji : j = i
    · subst hji
      rw [List.getElem?_set_self (by omega)] at hj
      cases hj
      exact List.mem_cons_self
    · rw [List.getElem?_set_ne (fun q => hji q.symm)] at hj
      refine List.mem_cons_of_mem _ (List.mem_filter.mpr ⟨(asl_mem lv 0 j w).mpr ⟨j, by omega, hj⟩, ?_⟩)
      have h1 : (j == i) = false := by simpa using hji
      have h3 : (j == i + 1) = false := by simpa using hji2
      have h2 : (j + 1 == i && w.category == 2) = false := by
        by_cases hq2 : j + 1 = i
        · have := hc j w hq2 hj
          simp [this]
        · simp [hq2]
      simp [h1, h2, h3]
section Rules
variable {V : Vt} {E : State → Prop} {d : Nat} {own : String} {cc : ByteArray} {nL : Nat} {rt : Option FieldType} {pc : Nat} {lv : List (Option Value)} {st : List Value} {h : Hp} {post : Option Value → Hp → Prop}
theorem g_iconst {n : Int} {v : Nat} (pc' : Nat) (hp : pc + 1 = pc') (hd : decode cc pc = .ok (.iconst n, 1)) (hv : Int32.ofInt n = nI v) (k : G V E d own cc nL rt pc' lv (.int (nI v) :: st) h post) : G V E d own cc nL rt pc lv (st) h post := by
  subst hp
  exact fun p e s m args below meth c R H locs ls cells slots Q C X hP hS hl hc => lv_iconst C.1 C.2.1 hd hv (k p e s m args below meth c R H locs ls cells slots Q C X hP hS hl hc)
theorem g_bipush {n : Int} {v : Nat} (pc' : Nat) (hp : pc + 2 = pc') (hd : decode cc pc = .ok (.bipush n, 2)) (hv : (Int8.ofInt n).toInt32 = nI v) (k : G V E d own cc nL rt pc' lv (.int (nI v) :: st) h post) : G V E d own cc nL rt pc lv (st) h post := by
  subst hp
  exact fun p e s m args below meth c R H locs ls cells slots Q C X hP hS hl hc => lv_bipush C.1 C.2.1 hd hv (k p e s m args below meth c R H locs ls cells slots Q C X hP hS hl hc)
theorem g_sipush {n : Int} {v : Nat} (pc' : Nat) (hp : pc + 3 = pc') (hd : decode cc pc = .ok (.sipush n, 3)) (hv : (Int16.ofInt n).toInt32 = nI v) (k : G V E d own cc nL rt pc' lv (.int (nI v) :: st) h post) : G V E d own cc nL rt pc lv (st) h post := by
  subst hp
  exact fun p e s m args below meth c R H locs ls cells slots Q C X hP hS hl hc => lv_sipush C.1 C.2.1 hd hv (k p e s m args below meth c R H locs ls cells slots Q C X hP hS hl hc)
theorem g_lconst {n : Fin 2} {v : Int64} (pc' : Nat) (hp : pc + 1 = pc') (hd : decode cc pc = .ok (.lconst n, 1)) (hv : Int64.ofNat (n : Nat) = v) (k : G V E d own cc nL rt pc' lv (.long v :: st) h post) : G V E d own cc nL rt pc lv (st) h post := by
  subst hp
  exact fun p e s m args below meth c R H locs ls cells slots Q C X hP hS hl hc => lv_lconst C.1 C.2.1 hd hv (k p e s m args below meth c R H locs ls cells slots Q C X hP hS hl hc)
theorem g_ldc2 {index : Nat} {v : Int64} (pc' : Nat) (hp : pc + 3 = pc') (hw : Cond.constantLong own index v ∈ lw_tbl) (hd : decode cc pc = .ok (.ldc2_w index, 3)) (k : G V E d own cc nL rt pc' lv (.long v :: st) h post) : G V E d own cc nL rt pc lv (st) h post := by
  subst hp
  exact fun p e s m args below meth c R H locs ls cells slots Q C X hP hS hl hc => lv_ldc2 C.1 C.2.1 C.2.2.2.1 (C.2.2.2.2.1 _ (lgm hw rfl)) hd (k p e s m args below meth c R H locs ls cells slots Q C X hP hS hl hc)
theorem g_ldcw {index : Nat} {v : Int32} (pc' : Nat) (hp : pc + 3 = pc') (hw : Cond.constant own index v ∈ lw_tbl) (hd : decode cc pc = .ok (.ldc_w index, 3)) (k : G V E d own cc nL rt pc' lv (.int v :: st) h post) : G V E d own cc nL rt pc lv (st) h post := by
  subst hp
  exact fun p e s m args below meth c R H locs ls cells slots Q C X hP hS hl hc => lv_ldcw C.1 C.2.1 C.2.2.2.1 (C.2.2.2.2.1 _ (lgm hw rfl)) hd (k p e s m args below meth c R H locs ls cells slots Q C X hP hS hl hc)
theorem g_dup {va : Value} (pc' : Nat) (hp : pc + 1 = pc') (hd : decode cc pc = .ok (.dup, 1)) (h1 : va.category = 1) (k : G V E d own cc nL rt pc' lv (va :: va :: st) h post) : G V E d own cc nL rt pc lv (va :: st) h post := by
  subst hp
  exact fun p e s m args below meth c R H locs ls cells slots Q C X hP hS hl hc => lv_dup C.1 C.2.1 hd h1 (k p e s m args below meth c R H locs ls cells slots Q C X hP hS hl hc)
theorem g_pop {va : Value} (pc' : Nat) (hp : pc + 1 = pc') (hd : decode cc pc = .ok (.pop, 1)) (h1 : va.category = 1) (k : G V E d own cc nL rt pc' lv (st) h post) : G V E d own cc nL rt pc lv (va :: st) h post := by
  subst hp
  exact fun p e s m args below meth c R H locs ls cells slots Q C X hP hS hl hc => lv_pop C.1 C.2.1 hd h1 (k p e s m args below meth c R H locs ls cells slots Q C X hP hS hl hc)
theorem g_dup2 {va vb : Value} (pc' : Nat) (hp : pc + 1 = pc') (hd : decode cc pc = .ok (.dup2, 1)) (h1 : va.category = 1) (h2 : vb.category = 1) (k : G V E d own cc nL rt pc' lv (va :: vb :: va :: vb :: st) h post) : G V E d own cc nL rt pc lv (va :: vb :: st) h post := by
  subst hp
  exact fun p e s m args below meth c R H locs ls cells slots Q C X hP hS hl hc => lv_dup2_11 C.1 C.2.1 hd h1 h2 (k p e s m args below meth c R H locs ls cells slots Q C X hP hS hl hc)
theorem g_dup2l {x : Int64} (pc' : Nat) (hp : pc + 1 = pc') (hd : decode cc pc = .ok (.dup2, 1))  (k : G V E d own cc nL rt pc' lv (.long x :: .long x :: st) h post) : G V E d own cc nL rt pc lv (.long x :: st) h post := by
  subst hp
  exact fun p e s m args below meth c R H locs ls cells slots Q C X hP hS hl hc => lv_dup2_2 C.1 C.2.1 hd rfl (k p e s m args below meth c R H locs ls cells slots Q C X hP hS hl hc)
theorem g_iadd {x y : Int32} (pc' : Nat) (hp : pc + 1 = pc') (hd : decode cc pc = .ok (.iadd, 1))  (k : G V E d own cc nL rt pc' lv (.int (x + y) :: st) h post) : G V E d own cc nL rt pc lv (.int y :: .int x :: st) h post := by
  subst hp
  exact fun p e s m args below meth c R H locs ls cells slots Q C X hP hS hl hc => lv_iadd C.1 C.2.1 hd (k p e s m args below meth c R H locs ls cells slots Q C X hP hS hl hc)
theorem g_isub {x y : Int32} (pc' : Nat) (hp : pc + 1 = pc') (hd : decode cc pc = .ok (.isub, 1))  (k : G V E d own cc nL rt pc' lv (.int (x - y) :: st) h post) : G V E d own cc nL rt pc lv (.int y :: .int x :: st) h post := by
  subst hp
  exact fun p e s m args below meth c R H locs ls cells slots Q C X hP hS hl hc => lv_isub C.1 C.2.1 hd (k p e s m args below meth c R H locs ls cells slots Q C X hP hS hl hc)
theorem g_imul {x y : Int32} (pc' : Nat) (hp : pc + 1 = pc') (hd : decode cc pc = .ok (.imul, 1))  (k : G V E d own cc nL rt pc' lv (.int (x * y) :: st) h post) : G V E d own cc nL rt pc lv (.int y :: .int x :: st) h post := by
  subst hp
  exact fun p e s m args below meth c R H locs ls cells slots Q C X hP hS hl hc => lv_imul C.1 C.2.1 hd (k p e s m args below meth c R H locs ls cells slots Q C X hP hS hl hc)
theorem g_iand {x y : Int32} (pc' : Nat) (hp : pc + 1 = pc') (hd : decode cc pc = .ok (.iand, 1))  (k : G V E d own cc nL rt pc' lv (.int (x &&& y) :: st) h post) : G V E d own cc nL rt pc lv (.int y :: .int x :: st) h post := by
  subst hp
  exact fun p e s m args below meth c R H locs ls cells slots Q C X hP hS hl hc => lv_iand C.1 C.2.1 hd (k p e s m args below meth c R H locs ls cells slots Q C X hP hS hl hc)
theorem g_ior {x y : Int32} (pc' : Nat) (hp : pc + 1 = pc') (hd : decode cc pc = .ok (.ior, 1))  (k : G V E d own cc nL rt pc' lv (.int (x ||| y) :: st) h post) : G V E d own cc nL rt pc lv (.int y :: .int x :: st) h post := by
  subst hp
  exact fun p e s m args below meth c R H locs ls cells slots Q C X hP hS hl hc => lv_ior C.1 C.2.1 hd (k p e s m args below meth c R H locs ls cells slots Q C X hP hS hl hc)
theorem g_ixor {x y : Int32} (pc' : Nat) (hp : pc + 1 = pc') (hd : decode cc pc = .ok (.ixor, 1))  (k : G V E d own cc nL rt pc' lv (.int (x ^^^ y) :: st) h post) : G V E d own cc nL rt pc lv (.int y :: .int x :: st) h post := by
  subst hp
  exact fun p e s m args below meth c R H locs ls cells slots Q C X hP hS hl hc => lv_ixor C.1 C.2.1 hd (k p e s m args below meth c R H locs ls cells slots Q C X hP hS hl hc)
theorem g_ishl {x y : Int32} (pc' : Nat) (hp : pc + 1 = pc') (hd : decode cc pc = .ok (.ishl, 1))  (k : G V E d own cc nL rt pc' lv (.int (x <<< (y &&& 31)) :: st) h post) : G V E d own cc nL rt pc lv (.int y :: .int x :: st) h post := by
  subst hp
  exact fun p e s m args below meth c R H locs ls cells slots Q C X hP hS hl hc => lv_ishl C.1 C.2.1 hd (k p e s m args below meth c R H locs ls cells slots Q C X hP hS hl hc)
theorem g_ishr {x y : Int32} (pc' : Nat) (hp : pc + 1 = pc') (hd : decode cc pc = .ok (.ishr, 1))  (k : G V E d own cc nL rt pc' lv (.int (x >>> (y &&& 31)) :: st) h post) : G V E d own cc nL rt pc lv (.int y :: .int x :: st) h post := by
  subst hp
  exact fun p e s m args below meth c R H locs ls cells slots Q C X hP hS hl hc => lv_ishr C.1 C.2.1 hd (k p e s m args below meth c R H locs ls cells slots Q C X hP hS hl hc)
theorem g_iushr {x y v : Int32} (pc' : Nat) (hp : pc + 1 = pc') (hd : decode cc pc = .ok (.iushr, 1)) (hv : (x.toUInt32 >>> (y.toUInt32 &&& Int32.toUInt32 31)).toInt32 = v) (k : G V E d own cc nL rt pc' lv (.int v :: st) h post) : G V E d own cc nL rt pc lv (.int y :: .int x :: st) h post := by
  subst hp
  exact fun p e s m args below meth c R H locs ls cells slots Q C X hP hS hl hc => lv_iushr C.1 C.2.1 hd hv (k p e s m args below meth c R H locs ls cells slots Q C X hP hS hl hc)
theorem g_idiv {x y : Int32} (pc' : Nat) (hp : pc + 1 = pc') (hd : decode cc pc = .ok (.idiv, 1)) (h0 : ¬ y = 0) (k : G V E d own cc nL rt pc' lv (.int (x / y) :: st) h post) : G V E d own cc nL rt pc lv (.int y :: .int x :: st) h post := by
  subst hp
  exact fun p e s m args below meth c R H locs ls cells slots Q C X hP hS hl hc => lv_idiv C.1 C.2.1 hd h0 (k p e s m args below meth c R H locs ls cells slots Q C X hP hS hl hc)
theorem g_irem {x y : Int32} (pc' : Nat) (hp : pc + 1 = pc') (hd : decode cc pc = .ok (.irem, 1)) (h0 : ¬ y = 0) (k : G V E d own cc nL rt pc' lv (.int (x - x / y * y) :: st) h post) : G V E d own cc nL rt pc lv (.int y :: .int x :: st) h post := by
  subst hp
  exact fun p e s m args below meth c R H locs ls cells slots Q C X hP hS hl hc => lv_irem C.1 C.2.1 hd h0 (k p e s m args below meth c R H locs ls cells slots Q C X hP hS hl hc)
theorem g_ineg {x : Int32} (pc' : Nat) (hp : pc + 1 = pc') (hd : decode cc pc = .ok (.ineg, 1))  (k : G V E d own cc nL rt pc' lv (.int (-x) :: st) h post) : G V E d own cc nL rt pc lv (.int x :: st) h post := by
  subst hp
  exact fun p e s m args below meth c R H locs ls cells slots Q C X hP hS hl hc => lv_ineg C.1 C.2.1 hd (k p e s m args below meth c R H locs ls cells slots Q C X hP hS hl hc)
theorem g_i2l {x : Int32} (pc' : Nat) (hp : pc + 1 = pc') (hd : decode cc pc = .ok (.i2l, 1))  (k : G V E d own cc nL rt pc' lv (.long x.toInt64 :: st) h post) : G V E d own cc nL rt pc lv (.int x :: st) h post := by
  subst hp
  exact fun p e s m args below meth c R H locs ls cells slots Q C X hP hS hl hc => lv_i2l C.1 C.2.1 hd rfl (k p e s m args below meth c R H locs ls cells slots Q C X hP hS hl hc)
theorem g_l2i {x : Int64} (pc' : Nat) (hp : pc + 1 = pc') (hd : decode cc pc = .ok (.l2i, 1))  (k : G V E d own cc nL rt pc' lv (.int x.toInt32 :: st) h post) : G V E d own cc nL rt pc lv (.long x :: st) h post := by
  subst hp
  exact fun p e s m args below meth c R H locs ls cells slots Q C X hP hS hl hc => lv_l2i C.1 C.2.1 hd rfl (k p e s m args below meth c R H locs ls cells slots Q C X hP hS hl hc)
theorem g_ladd {x y : Int64} (pc' : Nat) (hp : pc + 1 = pc') (hd : decode cc pc = .ok (.ladd, 1))  (k : G V E d own cc nL rt pc' lv (.long (x + y) :: st) h post) : G V E d own cc nL rt pc lv (.long y :: .long x :: st) h post := by
  subst hp
  exact fun p e s m args below meth c R H locs ls cells slots Q C X hP hS hl hc => lv_ladd C.1 C.2.1 hd (k p e s m args below meth c R H locs ls cells slots Q C X hP hS hl hc)
theorem g_lmul {x y : Int64} (pc' : Nat) (hp : pc + 1 = pc') (hd : decode cc pc = .ok (.lmul, 1))  (k : G V E d own cc nL rt pc' lv (.long (x * y) :: st) h post) : G V E d own cc nL rt pc lv (.long y :: .long x :: st) h post := by
  subst hp
  exact fun p e s m args below meth c R H locs ls cells slots Q C X hP hS hl hc => lv_lmul C.1 C.2.1 hd (k p e s m args below meth c R H locs ls cells slots Q C X hP hS hl hc)
theorem g_land {x y : Int64} (pc' : Nat) (hp : pc + 1 = pc') (hd : decode cc pc = .ok (.land, 1))  (k : G V E d own cc nL rt pc' lv (.long (x &&& y) :: st) h post) : G V E d own cc nL rt pc lv (.long y :: .long x :: st) h post := by
  subst hp
  exact fun p e s m args below meth c R H locs ls cells slots Q C X hP hS hl hc => lv_land C.1 C.2.1 hd (k p e s m args below meth c R H locs ls cells slots Q C X hP hS hl hc)
theorem g_lor {x y : Int64} (pc' : Nat) (hp : pc + 1 = pc') (hd : decode cc pc = .ok (.lor, 1))  (k : G V E d own cc nL rt pc' lv (.long (x ||| y) :: st) h post) : G V E d own cc nL rt pc lv (.long y :: .long x :: st) h post := by
  subst hp
  exact fun p e s m args below meth c R H locs ls cells slots Q C X hP hS hl hc => lv_lor C.1 C.2.1 hd (k p e s m args below meth c R H locs ls cells slots Q C X hP hS hl hc)
theorem g_lrem {x y : Int64} (pc' : Nat) (hp : pc + 1 = pc') (hd : decode cc pc = .ok (.lrem, 1)) (h0 : ¬ y = 0) (k : G V E d own cc nL rt pc' lv (.long (x - x / y * y) :: st) h post) : G V E d own cc nL rt pc lv (.long y :: .long x :: st) h post := by
  subst hp
  exact fun p e s m args below meth c R H locs ls cells slots Q C X hP hS hl hc => lv_lrem C.1 C.2.1 hd h0 (k p e s m args below meth c R H locs ls cells slots Q C X hP hS hl hc)
theorem g_lcmp {x y : Int64} (pc' : Nat) (hp : pc + 1 = pc') (hd : decode cc pc = .ok (.lcmp, 1))  (k : G V E d own cc nL rt pc' lv (.int (lg_cmp x y) :: st) h post) : G V E d own cc nL rt pc lv (.long y :: .long x :: st) h post := by
  subst hp
  exact fun p e s m args below meth c R H locs ls cells slots Q C X hP hS hl hc => W.lcmp C.1 C.2.1 hd (k p e s m args below meth c R H locs ls cells slots Q C X hP hS hl hc)
theorem g_lushr {x : Int64} {y : Int32} (pc' : Nat) (hp : pc + 1 = pc') (hd : decode cc pc = .ok (.lushr, 1))  (k : G V E d own cc nL rt pc' lv (.long (x.toUInt64 >>> (y.toInt64.toUInt64 &&& Int64.toUInt64 63)).toInt64 :: st) h post) : G V E d own cc nL rt pc lv (.int y :: .long x :: st) h post := by
  subst hp
  exact fun p e s m args below meth c R H locs ls cells slots Q C X hP hS hl hc => lv_lushr C.1 C.2.1 hd rfl (k p e s m args below meth c R H locs ls cells slots Q C X hP hS hl hc)
theorem g_lshl {x : Int64} {y : Int32} (pc' : Nat) (hp : pc + 1 = pc') (hd : decode cc pc = .ok (.lshl, 1))  (k : G V E d own cc nL rt pc' lv (.long (x <<< (y.toInt64 &&& 63)) :: st) h post) : G V E d own cc nL rt pc lv (.int y :: .long x :: st) h post := by
  subst hp
  exact fun p e s m args below meth c R H locs ls cells slots Q C X hP hS hl hc => lv_lshl C.1 C.2.1 hd rfl (k p e s m args below meth c R H locs ls cells slots Q C X hP hS hl hc)
theorem g_top {x y : Int32} (e : x = y) (k : G V E d own cc nL rt pc lv (.int y :: st) h post) : G V E d own cc nL rt pc lv (.int x :: st) h post := e ▸ k
theorem g_heap {h' : Hp} (e : h = h') (k : G V E d own cc nL rt pc lv (st) h' post) : G V E d own cc nL rt pc lv (st) h post := e ▸ k
theorem gn_iadd {x y : Nat} (pc' : Nat) (hp : pc + 1 = pc') (hd : decode cc pc = .ok (.iadd, 1))  (k : G V E d own cc nL rt pc' lv (.int (nI (x + y)) :: st) h post) : G V E d own cc nL rt pc lv (.int (nI y) :: .int (nI x) :: st) h post := by
  refine g_iadd pc' hp hd ?_
  rw [nI_add]
  exact k
theorem gn_imul {x y : Nat} (pc' : Nat) (hp : pc + 1 = pc') (hd : decode cc pc = .ok (.imul, 1))  (k : G V E d own cc nL rt pc' lv (.int (nI (x * y)) :: st) h post) : G V E d own cc nL rt pc lv (.int (nI y) :: .int (nI x) :: st) h post := by
  refine g_imul pc' hp hd ?_
  rw [pk_mul]
  exact k
theorem gn_isub {x y : Nat} (pc' : Nat) (hp : pc + 1 = pc') (hd : decode cc pc = .ok (.isub, 1)) (hy : y ≤ x) (k : G V E d own cc nL rt pc' lv (.int (nI (x - y)) :: st) h post) : G V E d own cc nL rt pc lv (.int (nI y) :: .int (nI x) :: st) h post := by
  refine g_isub pc' hp hd ?_
  rw [pk_sub hy]
  exact k
theorem gn_iand {x y : Nat} (pc' : Nat) (hp : pc + 1 = pc') (hd : decode cc pc = .ok (.iand, 1))  (k : G V E d own cc nL rt pc' lv (.int (nI (x &&& y)) :: st) h post) : G V E d own cc nL rt pc lv (.int (nI y) :: .int (nI x) :: st) h post := by
  refine g_iand pc' hp hd ?_
  rw [fa_and]
  exact k
theorem gn_ior {x y : Nat} (pc' : Nat) (hp : pc + 1 = pc') (hd : decode cc pc = .ok (.ior, 1))  (k : G V E d own cc nL rt pc' lv (.int (nI (x ||| y)) :: st) h post) : G V E d own cc nL rt pc lv (.int (nI y) :: .int (nI x) :: st) h post := by
  refine g_ior pc' hp hd ?_
  rw [fa_or]
  exact k
theorem gn_ixor {x y : Nat} (pc' : Nat) (hp : pc + 1 = pc') (hd : decode cc pc = .ok (.ixor, 1))  (k : G V E d own cc nL rt pc' lv (.int (nI (x ^^^ y)) :: st) h post) : G V E d own cc nL rt pc lv (.int (nI y) :: .int (nI x) :: st) h post := by
  refine g_ixor pc' hp hd ?_
  rw [fx_xor]
  exact k
theorem gn_ishl {x y : Nat} (pc' : Nat) (hp : pc + 1 = pc') (hd : decode cc pc = .ok (.ishl, 1)) (hy : y < 32) (k : G V E d own cc nL rt pc' lv (.int (nI (x * 2 ^ y)) :: st) h post) : G V E d own cc nL rt pc lv (.int (nI y) :: .int (nI x) :: st) h post := by
  refine g_ishl pc' hp hd ?_
  rw [fx_shl hy]
  exact k
theorem gn_ishr {x y : Nat} (pc' : Nat) (hp : pc + 1 = pc') (hd : decode cc pc = .ok (.ishr, 1)) (hx : x < 2 ^ 31) (hy : y < 32) (k : G V E d own cc nL rt pc' lv (.int (nI (x / 2 ^ y)) :: st) h post) : G V E d own cc nL rt pc lv (.int (nI y) :: .int (nI x) :: st) h post := by
  refine g_ishr pc' hp hd ?_
  rw [fx_shr hx hy]
  exact k
theorem gn_idiv {x y : Nat} (pc' : Nat) (hp : pc + 1 = pc') (hd : decode cc pc = .ok (.idiv, 1)) (hx : x < 2 ^ 31) (h0 : 0 < y) (hy : y < 2 ^ 31) (k : G V E d own cc nL rt pc' lv (.int (nI (x / y)) :: st) h post) : G V E d own cc nL rt pc lv (.int (nI y) :: .int (nI x) :: st) h post := by
  refine g_idiv pc' hp hd (nI_ne0 h0 hy) ?_
  rw [pk_div hx h0 hy]
  exact k
theorem gn_irem {x y : Nat} (pc' : Nat) (hp : pc + 1 = pc') (hd : decode cc pc = .ok (.irem, 1)) (hx : x < 2 ^ 31) (h0 : 0 < y) (hy : y < 2 ^ 31) (k : G V E d own cc nL rt pc' lv (.int (nI (x % y)) :: st) h post) : G V E d own cc nL rt pc lv (.int (nI y) :: .int (nI x) :: st) h post := by
  refine g_irem pc' hp hd (nI_ne0 h0 hy) ?_
  rw [pk_rem hx h0 hy]
  exact k
theorem g_icmp_eq {x y : Int32} {off : Int} (tgt : Nat) (ht : (pc : Int) + off = (tgt : Int)) (pc' : Nat) (hp : pc + 3 = pc') (hd : decode cc pc = .ok (.if_icmp .eq off, 3)) (kt : x = y → G V E d own cc nL rt tgt lv (st) h post) (kf : ¬ x = y → G V E d own cc nL rt pc' lv (st) h post) : G V E d own cc nL rt pc lv (.int y :: .int x :: st) h post := by
  subst hp
  exact fun p e s m args below meth c R H locs ls cells slots Q C X hP hS hl hc => lv_icmp_eq C.1 C.2.1 hd ht (fun q => kt q p e s m args below meth c R H locs ls cells slots Q C X hP hS hl hc) (fun q => kf q p e s m args below meth c R H locs ls cells slots Q C X hP hS hl hc)
theorem g_if_eq {x : Int32} {off : Int} (tgt : Nat) (ht : (pc : Int) + off = (tgt : Int)) (pc' : Nat) (hp : pc + 3 = pc') (hd : decode cc pc = .ok (.ifCond .eq off, 3)) (kt : x = 0 → G V E d own cc nL rt tgt lv (st) h post) (kf : ¬ x = 0 → G V E d own cc nL rt pc' lv (st) h post) : G V E d own cc nL rt pc lv (.int x :: st) h post := by
  subst hp
  exact fun p e s m args below meth c R H locs ls cells slots Q C X hP hS hl hc => lv_if_eq C.1 C.2.1 hd ht (fun q => kt q p e s m args below meth c R H locs ls cells slots Q C X hP hS hl hc) (fun q => kf q p e s m args below meth c R H locs ls cells slots Q C X hP hS hl hc)
theorem gn_icmp_eq {x y : Nat} {off : Int} (tgt : Nat) (ht : (pc : Int) + off = (tgt : Int)) (pc' : Nat) (hp : pc + 3 = pc') (hd : decode cc pc = .ok (.if_icmp .eq off, 3)) (hx : x < 2 ^ 31) (hy : y < 2 ^ 31) (kt : x = y → G V E d own cc nL rt tgt lv (st) h post) (kf : ¬ x = y → G V E d own cc nL rt pc' lv (st) h post) : G V E d own cc nL rt pc lv (.int (nI y) :: .int (nI x) :: st) h post := by
  exact g_icmp_eq tgt ht pc' hp hd (fun q => kt ((nI_eq hx hy) |>.mp q)) (fun q => kf (fun w => q ((nI_eq hx hy).mpr w)))
theorem gn_if_eq {x : Nat} {off : Int} (tgt : Nat) (ht : (pc : Int) + off = (tgt : Int)) (pc' : Nat) (hp : pc + 3 = pc') (hd : decode cc pc = .ok (.ifCond .eq off, 3)) (hx : x < 2 ^ 31) (kt : x = 0 → G V E d own cc nL rt tgt lv (st) h post) (kf : ¬ x = 0 → G V E d own cc nL rt pc' lv (st) h post) : G V E d own cc nL rt pc lv (.int (nI x) :: st) h post := by
  refine g_if_eq tgt ht pc' hp hd (fun q => kt ?_) (fun q => kf ?_)
  · exact (fz_eq hx).1 q
  · exact (fz_eq hx).2 q
theorem g_icmp_ne {x y : Int32} {off : Int} (tgt : Nat) (ht : (pc : Int) + off = (tgt : Int)) (pc' : Nat) (hp : pc + 3 = pc') (hd : decode cc pc = .ok (.if_icmp .ne off, 3)) (kt : ¬ x = y → G V E d own cc nL rt tgt lv (st) h post) (kf : x = y → G V E d own cc nL rt pc' lv (st) h post) : G V E d own cc nL rt pc lv (.int y :: .int x :: st) h post := by
  subst hp
  exact fun p e s m args below meth c R H locs ls cells slots Q C X hP hS hl hc => lv_icmp_ne C.1 C.2.1 hd ht (fun q => kt q p e s m args below meth c R H locs ls cells slots Q C X hP hS hl hc) (fun q => kf q p e s m args below meth c R H locs ls cells slots Q C X hP hS hl hc)
theorem g_if_ne {x : Int32} {off : Int} (tgt : Nat) (ht : (pc : Int) + off = (tgt : Int)) (pc' : Nat) (hp : pc + 3 = pc') (hd : decode cc pc = .ok (.ifCond .ne off, 3)) (kt : ¬ x = 0 → G V E d own cc nL rt tgt lv (st) h post) (kf : x = 0 → G V E d own cc nL rt pc' lv (st) h post) : G V E d own cc nL rt pc lv (.int x :: st) h post := by
  subst hp
  exact fun p e s m args below meth c R H locs ls cells slots Q C X hP hS hl hc => lv_if_ne C.1 C.2.1 hd ht (fun q => kt q p e s m args below meth c R H locs ls cells slots Q C X hP hS hl hc) (fun q => kf q p e s m args below meth c R H locs ls cells slots Q C X hP hS hl hc)
theorem gn_icmp_ne {x y : Nat} {off : Int} (tgt : Nat) (ht : (pc : Int) + off = (tgt : Int)) (pc' : Nat) (hp : pc + 3 = pc') (hd : decode cc pc = .ok (.if_icmp .ne off, 3)) (hx : x < 2 ^ 31) (hy : y < 2 ^ 31) (kt : ¬ x = y → G V E d own cc nL rt tgt lv (st) h post) (kf : x = y → G V E d own cc nL rt pc' lv (st) h post) : G V E d own cc nL rt pc lv (.int (nI y) :: .int (nI x) :: st) h post := by
  exact g_icmp_ne tgt ht pc' hp hd (fun q => kt (fun w => q ((nI_eq hx hy).mpr w))) (fun q => kf ((nI_eq hx hy).mp q))
theorem gn_if_ne {x : Nat} {off : Int} (tgt : Nat) (ht : (pc : Int) + off = (tgt : Int)) (pc' : Nat) (hp : pc + 3 = pc') (hd : decode cc pc = .ok (.ifCond .ne off, 3)) (hx : x < 2 ^ 31) (kt : ¬ x = 0 → G V E d own cc nL rt tgt lv (st) h post) (kf : x = 0 → G V E d own cc nL rt pc' lv (st) h post) : G V E d own cc nL rt pc lv (.int (nI x) :: st) h post := by
  refine g_if_ne tgt ht pc' hp hd (fun q => kt ?_) (fun q => kf ?_)
  · exact (fz_ne hx).1 q
  · exact (fz_ne hx).2 q
theorem g_icmp_lt {x y : Int32} {off : Int} (tgt : Nat) (ht : (pc : Int) + off = (tgt : Int)) (pc' : Nat) (hp : pc + 3 = pc') (hd : decode cc pc = .ok (.if_icmp .lt off, 3)) (kt : x < y → G V E d own cc nL rt tgt lv (st) h post) (kf : ¬ x < y → G V E d own cc nL rt pc' lv (st) h post) : G V E d own cc nL rt pc lv (.int y :: .int x :: st) h post := by
  subst hp
  exact fun p e s m args below meth c R H locs ls cells slots Q C X hP hS hl hc => lv_icmp_lt C.1 C.2.1 hd ht (fun q => kt q p e s m args below meth c R H locs ls cells slots Q C X hP hS hl hc) (fun q => kf q p e s m args below meth c R H locs ls cells slots Q C X hP hS hl hc)
theorem g_if_lt {x : Int32} {off : Int} (tgt : Nat) (ht : (pc : Int) + off = (tgt : Int)) (pc' : Nat) (hp : pc + 3 = pc') (hd : decode cc pc = .ok (.ifCond .lt off, 3)) (kt : x < 0 → G V E d own cc nL rt tgt lv (st) h post) (kf : ¬ x < 0 → G V E d own cc nL rt pc' lv (st) h post) : G V E d own cc nL rt pc lv (.int x :: st) h post := by
  subst hp
  exact fun p e s m args below meth c R H locs ls cells slots Q C X hP hS hl hc => lv_if_lt C.1 C.2.1 hd ht (fun q => kt q p e s m args below meth c R H locs ls cells slots Q C X hP hS hl hc) (fun q => kf q p e s m args below meth c R H locs ls cells slots Q C X hP hS hl hc)
theorem gn_icmp_lt {x y : Nat} {off : Int} (tgt : Nat) (ht : (pc : Int) + off = (tgt : Int)) (pc' : Nat) (hp : pc + 3 = pc') (hd : decode cc pc = .ok (.if_icmp .lt off, 3)) (hx : x < 2 ^ 31) (hy : y < 2 ^ 31) (kt : x < y → G V E d own cc nL rt tgt lv (st) h post) (kf : y ≤ x → G V E d own cc nL rt pc' lv (st) h post) : G V E d own cc nL rt pc lv (.int (nI y) :: .int (nI x) :: st) h post := by
  exact g_icmp_lt tgt ht pc' hp hd (fun q => kt ((nI_ltI hx hy).mp q)) (fun q => kf (by have w := (not_congr (nI_ltI hx hy)).mp q; omega))
theorem gn_if_lt {x : Nat} {off : Int} (tgt : Nat) (ht : (pc : Int) + off = (tgt : Int)) (pc' : Nat) (hp : pc + 3 = pc') (hd : decode cc pc = .ok (.ifCond .lt off, 3)) (hx : x < 2 ^ 31) (kt : False → G V E d own cc nL rt tgt lv (st) h post) (kf : True → G V E d own cc nL rt pc' lv (st) h post) : G V E d own cc nL rt pc lv (.int (nI x) :: st) h post := by
  refine g_if_lt tgt ht pc' hp hd (fun q => kt ?_) (fun q => kf ?_)
  · exact (fz_lt hx).1 q
  · exact (fz_lt hx).2 q
theorem g_icmp_ge {x y : Int32} {off : Int} (tgt : Nat) (ht : (pc : Int) + off = (tgt : Int)) (pc' : Nat) (hp : pc + 3 = pc') (hd : decode cc pc = .ok (.if_icmp .ge off, 3)) (kt : y ≤ x → G V E d own cc nL rt tgt lv (st) h post) (kf : ¬ y ≤ x → G V E d own cc nL rt pc' lv (st) h post) : G V E d own cc nL rt pc lv (.int y :: .int x :: st) h post := by
  subst hp
  exact fun p e s m args below meth c R H locs ls cells slots Q C X hP hS hl hc => lv_icmp_ge C.1 C.2.1 hd ht (fun q => kt q p e s m args below meth c R H locs ls cells slots Q C X hP hS hl hc) (fun q => kf q p e s m args below meth c R H locs ls cells slots Q C X hP hS hl hc)
theorem g_if_ge {x : Int32} {off : Int} (tgt : Nat) (ht : (pc : Int) + off = (tgt : Int)) (pc' : Nat) (hp : pc + 3 = pc') (hd : decode cc pc = .ok (.ifCond .ge off, 3)) (kt : 0 ≤ x → G V E d own cc nL rt tgt lv (st) h post) (kf : ¬ 0 ≤ x → G V E d own cc nL rt pc' lv (st) h post) : G V E d own cc nL rt pc lv (.int x :: st) h post := by
  subst hp
  exact fun p e s m args below meth c R H locs ls cells slots Q C X hP hS hl hc => lv_if_ge C.1 C.2.1 hd ht (fun q => kt q p e s m args below meth c R H locs ls cells slots Q C X hP hS hl hc) (fun q => kf q p e s m args below meth c R H locs ls cells slots Q C X hP hS hl hc)
theorem gn_icmp_ge {x y : Nat} {off : Int} (tgt : Nat) (ht : (pc : Int) + off = (tgt : Int)) (pc' : Nat) (hp : pc + 3 = pc') (hd : decode cc pc = .ok (.if_icmp .ge off, 3)) (hx : x < 2 ^ 31) (hy : y < 2 ^ 31) (kt : y ≤ x → G V E d own cc nL rt tgt lv (st) h post) (kf : x < y → G V E d own cc nL rt pc' lv (st) h post) : G V E d own cc nL rt pc lv (.int (nI y) :: .int (nI x) :: st) h post := by
  exact g_icmp_ge tgt ht pc' hp hd (fun q => kt ((nI_leI hy hx).mp q)) (fun q => kf (by have w := (not_congr (nI_leI hy hx)).mp q; omega))
theorem gn_if_ge {x : Nat} {off : Int} (tgt : Nat) (ht : (pc : Int) + off = (tgt : Int)) (pc' : Nat) (hp : pc + 3 = pc') (hd : decode cc pc = .ok (.ifCond .ge off, 3)) (hx : x < 2 ^ 31) (kt : True → G V E d own cc nL rt tgt lv (st) h post) (kf : False → G V E d own cc nL rt pc' lv (st) h post) : G V E d own cc nL rt pc lv (.int (nI x) :: st) h post := by
  refine g_if_ge tgt ht pc' hp hd (fun q => kt ?_) (fun q => kf ?_)
  · exact (fz_ge hx).1 q
  · exact (fz_ge hx).2 q
theorem g_icmp_gt {x y : Int32} {off : Int} (tgt : Nat) (ht : (pc : Int) + off = (tgt : Int)) (pc' : Nat) (hp : pc + 3 = pc') (hd : decode cc pc = .ok (.if_icmp .gt off, 3)) (kt : y < x → G V E d own cc nL rt tgt lv (st) h post) (kf : ¬ y < x → G V E d own cc nL rt pc' lv (st) h post) : G V E d own cc nL rt pc lv (.int y :: .int x :: st) h post := by
  subst hp
  exact fun p e s m args below meth c R H locs ls cells slots Q C X hP hS hl hc => lv_icmp_gt C.1 C.2.1 hd ht (fun q => kt q p e s m args below meth c R H locs ls cells slots Q C X hP hS hl hc) (fun q => kf q p e s m args below meth c R H locs ls cells slots Q C X hP hS hl hc)
theorem g_if_gt {x : Int32} {off : Int} (tgt : Nat) (ht : (pc : Int) + off = (tgt : Int)) (pc' : Nat) (hp : pc + 3 = pc') (hd : decode cc pc = .ok (.ifCond .gt off, 3)) (kt : 0 < x → G V E d own cc nL rt tgt lv (st) h post) (kf : ¬ 0 < x → G V E d own cc nL rt pc' lv (st) h post) : G V E d own cc nL rt pc lv (.int x :: st) h post := by
  subst hp
  exact fun p e s m args below meth c R H locs ls cells slots Q C X hP hS hl hc => lv_if_gt C.1 C.2.1 hd ht (fun q => kt q p e s m args below meth c R H locs ls cells slots Q C X hP hS hl hc) (fun q => kf q p e s m args below meth c R H locs ls cells slots Q C X hP hS hl hc)
theorem gn_icmp_gt {x y : Nat} {off : Int} (tgt : Nat) (ht : (pc : Int) + off = (tgt : Int)) (pc' : Nat) (hp : pc + 3 = pc') (hd : decode cc pc = .ok (.if_icmp .gt off, 3)) (hx : x < 2 ^ 31) (hy : y < 2 ^ 31) (kt : y < x → G V E d own cc nL rt tgt lv (st) h post) (kf : x ≤ y → G V E d own cc nL rt pc' lv (st) h post) : G V E d own cc nL rt pc lv (.int (nI y) :: .int (nI x) :: st) h post := by
  exact g_icmp_gt tgt ht pc' hp hd (fun q => kt ((nI_ltI hy hx).mp q)) (fun q => kf (by have w := (not_congr (nI_ltI hy hx)).mp q; omega))
theorem gn_if_gt {x : Nat} {off : Int} (tgt : Nat) (ht : (pc : Int) + off = (tgt : Int)) (pc' : Nat) (hp : pc + 3 = pc') (hd : decode cc pc = .ok (.ifCond .gt off, 3)) (hx : x < 2 ^ 31) (kt : 0 < x → G V E d own cc nL rt tgt lv (st) h post) (kf : x = 0 → G V E d own cc nL rt pc' lv (st) h post) : G V E d own cc nL rt pc lv (.int (nI x) :: st) h post := by
  refine g_if_gt tgt ht pc' hp hd (fun q => kt ?_) (fun q => kf ?_)
  · exact (fz_gt hx).1 q
  · exact (fz_gt hx).2 q
theorem g_icmp_le {x y : Int32} {off : Int} (tgt : Nat) (ht : (pc : Int) + off = (tgt : Int)) (pc' : Nat) (hp : pc + 3 = pc') (hd : decode cc pc = .ok (.if_icmp .le off, 3)) (kt : x ≤ y → G V E d own cc nL rt tgt lv (st) h post) (kf : ¬ x ≤ y → G V E d own cc nL rt pc' lv (st) h post) : G V E d own cc nL rt pc lv (.int y :: .int x :: st) h post := by
  subst hp
  exact fun p e s m args below meth c R H locs ls cells slots Q C X hP hS hl hc => lv_icmp_le C.1 C.2.1 hd ht (fun q => kt q p e s m args below meth c R H locs ls cells slots Q C X hP hS hl hc) (fun q => kf q p e s m args below meth c R H locs ls cells slots Q C X hP hS hl hc)
theorem g_if_le {x : Int32} {off : Int} (tgt : Nat) (ht : (pc : Int) + off = (tgt : Int)) (pc' : Nat) (hp : pc + 3 = pc') (hd : decode cc pc = .ok (.ifCond .le off, 3)) (kt : x ≤ 0 → G V E d own cc nL rt tgt lv (st) h post) (kf : ¬ x ≤ 0 → G V E d own cc nL rt pc' lv (st) h post) : G V E d own cc nL rt pc lv (.int x :: st) h post := by
  subst hp
  exact fun p e s m args below meth c R H locs ls cells slots Q C X hP hS hl hc => lv_if_le C.1 C.2.1 hd ht (fun q => kt q p e s m args below meth c R H locs ls cells slots Q C X hP hS hl hc) (fun q => kf q p e s m args below meth c R H locs ls cells slots Q C X hP hS hl hc)
theorem gn_icmp_le {x y : Nat} {off : Int} (tgt : Nat) (ht : (pc : Int) + off = (tgt : Int)) (pc' : Nat) (hp : pc + 3 = pc') (hd : decode cc pc = .ok (.if_icmp .le off, 3)) (hx : x < 2 ^ 31) (hy : y < 2 ^ 31) (kt : x ≤ y → G V E d own cc nL rt tgt lv (st) h post) (kf : y < x → G V E d own cc nL rt pc' lv (st) h post) : G V E d own cc nL rt pc lv (.int (nI y) :: .int (nI x) :: st) h post := by
  exact g_icmp_le tgt ht pc' hp hd (fun q => kt ((nI_leI hx hy).mp q)) (fun q => kf (by have w := (not_congr (nI_leI hx hy)).mp q; omega))
theorem gn_if_le {x : Nat} {off : Int} (tgt : Nat) (ht : (pc : Int) + off = (tgt : Int)) (pc' : Nat) (hp : pc + 3 = pc') (hd : decode cc pc = .ok (.ifCond .le off, 3)) (hx : x < 2 ^ 31) (kt : x = 0 → G V E d own cc nL rt tgt lv (st) h post) (kf : 0 < x → G V E d own cc nL rt pc' lv (st) h post) : G V E d own cc nL rt pc lv (.int (nI x) :: st) h post := by
  refine g_if_le tgt ht pc' hp hd (fun q => kt ?_) (fun q => kf ?_)
  · exact (fz_le hx).1 q
  · exact (fz_le hx).2 q
theorem g_goto {off : Int} (tgt : Nat) (ht : (pc : Int) + off = (tgt : Int)) (hd : decode cc pc = .ok (.goto off, 3)) (k : G V E d own cc nL rt tgt lv (st) h post) : G V E d own cc nL rt pc lv (st) h post := fun p e s m args below meth c R H locs ls cells slots Q C X hP hS hl hc => lv_goto C.1 C.2.1 hd ht (k p e s m args below meth c R H locs ls cells slots Q C X hP hS hl hc)
def tsO (dflt lo hi : Int) (offs : Array Int) (x : Int32) : Option Int := if x.toInt < lo ∨ hi < x.toInt then some dflt else offs[(x.toInt - lo).toNat]?
theorem g_tsw {dflt lo hi : Int} {offs : Array Int} {len : Nat} {x : Int32} {off : Int} (tgt : Nat) (hd : decode cc pc = .ok (.tableswitch dflt lo hi offs, len)) (ho : tsO dflt lo hi offs x = some off) (ht : (pc : Int) + off = (tgt : Int)) (k : G V E d own cc nL rt tgt lv (st) h post) : G V E d own cc nL rt pc lv (.int x :: st) h post := by
  intro p e s m args below meth c R H locs ls cells slots Q C X hP hS hl hc
  unfold tsO at ho
  split at ho
  · rename_i q
    cases ho
    exact lv_tableOut C.1 C.2.1 hd q ht (k p e s m args below meth c R H locs ls cells slots Q C X hP hS hl hc)
  · rename_i q
    exact lv_tableIn C.1 C.2.1 hd (fun w => q (Or.inl w)) (fun w => q (Or.inr w)) ho ht (k p e s m args below meth c R H locs ls cells slots Q C X hP hS hl hc)
theorem g_lsw {dflt : Int} {ps : Array (Int × Int)} {len : Nat} {x : Int32} {off : Int} (tgt : Nat) (hd : decode cc pc = .ok (.lookupswitch dflt ps, len)) (hs : (ps.toList.zip (ps.toList.drop 1)).all (fun (a, next) => a.1 < next.1) = true) (ho : Op.lookupswitch.offset ps.toList dflt x.toInt = off) (ht : (pc : Int) + off = (tgt : Int)) (k : G V E d own cc nL rt tgt lv (st) h post) : G V E d own cc nL rt pc lv (.int x :: st) h post := fun p e s m args below meth c R H locs ls cells slots Q C X hP hS hl hc => lv_lookup C.1 C.2.1 hd hs ho ht (k p e s m args below meth c R H locs ls cells slots Q C X hP hS hl hc)
theorem g_iload0 {t : List (Option Value)} {x : Int32} (pc' : Nat) (hp : pc + 2 = pc') (hd : decode cc pc = .ok (.iload 0, 2)) (k : G V E d own cc nL rt pc' (some (.int x) :: t) (.int x :: st) h post) : G V E d own cc nL rt pc (some (.int x) :: t) (st) h post := by
  subst hp
  exact fun p e s m args below meth c R H locs ls cells slots Q C X hP hS hl hc => lv_iload C.1 C.2.1 hd (asl_at (i := 0) hl rfl) (k p e s m args below meth c R H locs ls cells slots Q C X hP hS hl hc)
theorem g_iload_n0 {t : List (Option Value)} {x : Int32} (pc' : Nat) (hp : pc + 1 = pc') (hd : decode cc pc = .ok (.iload_n 0, 1)) (k : G V E d own cc nL rt pc' (some (.int x) :: t) (.int x :: st) h post) : G V E d own cc nL rt pc (some (.int x) :: t) (st) h post := by
  subst hp
  exact fun p e s m args below meth c R H locs ls cells slots Q C X hP hS hl hc => lv_iload_n C.1 C.2.1 hd rfl (asl_at (i := 0) hl rfl) (k p e s m args below meth c R H locs ls cells slots Q C X hP hS hl hc)
theorem g_aload0 {t : List (Option Value)} {x : Nat} (pc' : Nat) (hp : pc + 2 = pc') (hd : decode cc pc = .ok (.aload 0, 2)) (k : G V E d own cc nL rt pc' (some (rf V x) :: t) (rf V x :: st) h post) : G V E d own cc nL rt pc (some (rf V x) :: t) (st) h post := by
  subst hp
  exact fun p e s m args below meth c R H locs ls cells slots Q C X hP hS hl hc => lv_aload C.1 C.2.1 hd (asl_at (i := 0) hl rfl) (k p e s m args below meth c R H locs ls cells slots Q C X hP hS hl hc)
theorem g_aload_n0 {t : List (Option Value)} {x : Nat} (pc' : Nat) (hp : pc + 1 = pc') (hd : decode cc pc = .ok (.aload_n 0, 1)) (k : G V E d own cc nL rt pc' (some (rf V x) :: t) (rf V x :: st) h post) : G V E d own cc nL rt pc (some (rf V x) :: t) (st) h post := by
  subst hp
  exact fun p e s m args below meth c R H locs ls cells slots Q C X hP hS hl hc => lv_aload_n C.1 C.2.1 hd rfl (asl_at (i := 0) hl rfl) (k p e s m args below meth c R H locs ls cells slots Q C X hP hS hl hc)
theorem g_lload0 {t : List (Option Value)} {x : Int64} (pc' : Nat) (hp : pc + 2 = pc') (hd : decode cc pc = .ok (.lload 0, 2)) (k : G V E d own cc nL rt pc' (some (.long x) :: t) (.long x :: st) h post) : G V E d own cc nL rt pc (some (.long x) :: t) (st) h post := by
  subst hp
  exact fun p e s m args below meth c R H locs ls cells slots Q C X hP hS hl hc => lv_lload C.1 C.2.1 hd (asl_at (i := 0) hl rfl) (k p e s m args below meth c R H locs ls cells slots Q C X hP hS hl hc)
theorem g_lload_n0 {t : List (Option Value)} {x : Int64} (pc' : Nat) (hp : pc + 1 = pc') (hd : decode cc pc = .ok (.lload_n 0, 1)) (k : G V E d own cc nL rt pc' (some (.long x) :: t) (.long x :: st) h post) : G V E d own cc nL rt pc (some (.long x) :: t) (st) h post := by
  subst hp
  exact fun p e s m args below meth c R H locs ls cells slots Q C X hP hS hl hc => lv_lload_n C.1 C.2.1 hd rfl (asl_at (i := 0) hl rfl) (k p e s m args below meth c R H locs ls cells slots Q C X hP hS hl hc)
theorem g_istore0 { b : Option Value} {t : List (Option Value)} {x : Int32} (pc' : Nat) (hp : pc + 2 = pc') (hd : decode cc pc = .ok (.istore 0, 2)) (hn : 0 < nL) (k : G V E d own cc nL rt pc' (some (.int x) :: t) (st) h post) : G V E d own cc nL rt pc (b :: t) (.int x :: st) h post := by
  subst hp
  exact fun p e s m args below meth c R H locs ls cells slots Q C X hP hS hl hc => lv_istore C.1 C.2.1 hd hl hn rfl (fun ls' hl' => k p e s m args below meth c R H locs ls' cells slots Q C X hP hS (asl_st (lv := (b :: t)) (i := 0) hl' rfl (by simp only [List.length_cons]; omega) (fun j w hj _ => absurd hj (Nat.succ_ne_zero j))) hc)
theorem g_istore_n0 { b : Option Value} {t : List (Option Value)} {x : Int32} (pc' : Nat) (hp : pc + 1 = pc') (hd : decode cc pc = .ok (.istore_n 0, 1)) (hn : 0 < nL) (k : G V E d own cc nL rt pc' (some (.int x) :: t) (st) h post) : G V E d own cc nL rt pc (b :: t) (.int x :: st) h post := by
  subst hp
  exact fun p e s m args below meth c R H locs ls cells slots Q C X hP hS hl hc => lv_istore_n C.1 C.2.1 hd rfl hl hn rfl (fun ls' hl' => k p e s m args below meth c R H locs ls' cells slots Q C X hP hS (asl_st (lv := (b :: t)) (i := 0) hl' rfl (by simp only [List.length_cons]; omega) (fun j w hj _ => absurd hj (Nat.succ_ne_zero j))) hc)
theorem g_astore0 { b : Option Value} {t : List (Option Value)} {x : Nat} (pc' : Nat) (hp : pc + 2 = pc') (hd : decode cc pc = .ok (.astore 0, 2)) (hn : 0 < nL) (k : G V E d own cc nL rt pc' (some (rf V x) :: t) (st) h post) : G V E d own cc nL rt pc (b :: t) (rf V x :: st) h post := by
  subst hp
  exact fun p e s m args below meth c R H locs ls cells slots Q C X hP hS hl hc => lv_astore C.1 C.2.1 hd hl hn rfl (fun ls' hl' => k p e s m args below meth c R H locs ls' cells slots Q C X hP hS (asl_st (lv := (b :: t)) (i := 0) hl' rfl (by simp only [List.length_cons]; omega) (fun j w hj _ => absurd hj (Nat.succ_ne_zero j))) hc)
theorem g_astore_n0 { b : Option Value} {t : List (Option Value)} {x : Nat} (pc' : Nat) (hp : pc + 1 = pc') (hd : decode cc pc = .ok (.astore_n 0, 1)) (hn : 0 < nL) (k : G V E d own cc nL rt pc' (some (rf V x) :: t) (st) h post) : G V E d own cc nL rt pc (b :: t) (rf V x :: st) h post := by
  subst hp
  exact fun p e s m args below meth c R H locs ls cells slots Q C X hP hS hl hc => lv_astore_n C.1 C.2.1 hd rfl hl hn rfl (fun ls' hl' => k p e s m args below meth c R H locs ls' cells slots Q C X hP hS (asl_st (lv := (b :: t)) (i := 0) hl' rfl (by simp only [List.length_cons]; omega) (fun j w hj _ => absurd hj (Nat.succ_ne_zero j))) hc)
theorem g_iinc0 {t : List (Option Value)} {x v : Int32} {n : Int} (pc' : Nat) (hp : pc + 3 = pc') (hd : decode cc pc = .ok (.iinc 0 n, 3)) (hv : x + Int32.ofInt n = v) (hn : 0 < nL) (k : G V E d own cc nL rt pc' (some (.int v) :: t) (st) h post) : G V E d own cc nL rt pc (some (.int x) :: t) (st) h post := by
  subst hp
  intro p e s m args below meth c R H locs ls cells slots Q C X hP hS hl hc
  obtain ⟨q, hq⟩ := List.getElem?_of_mem ((asl_mem (some (.int x) :: t) 0 0 (.int x)).mpr ⟨0, by omega, rfl⟩)
  exact lv_iinc C.1 C.2.1 hd hl hq hv hn rfl (fun ls' hl' => k p e s m args below meth c R H locs ls' cells slots Q C X hP hS (asl_st (lv := (some (.int x) :: t)) (i := 0) hl' rfl (by simp only [List.length_cons]; omega) (fun j w hj _ => absurd hj (Nat.succ_ne_zero j))) hc)
theorem gn_iinc0 {t : List (Option Value)} {x : Nat} {n : Int} (z : Nat) (pc' : Nat) (hp : pc + 3 = pc') (hd : decode cc pc = .ok (.iinc 0 n, 3)) (hz : Int32.ofInt n = nI z) (hn : 0 < nL) (k : G V E d own cc nL rt pc' (some (.int (nI (x + z))) :: t) (st) h post) : G V E d own cc nL rt pc (some (.int (nI x)) :: t) (st) h post := g_iinc0 pc' hp hd (by rw [hz, nI_add]) hn k
theorem g_iload1 {a0 : Option Value} {t : List (Option Value)} {x : Int32} (pc' : Nat) (hp : pc + 2 = pc') (hd : decode cc pc = .ok (.iload 1, 2)) (k : G V E d own cc nL rt pc' (a0 :: some (.int x) :: t) (.int x :: st) h post) : G V E d own cc nL rt pc (a0 :: some (.int x) :: t) (st) h post := by
  subst hp
  exact fun p e s m args below meth c R H locs ls cells slots Q C X hP hS hl hc => lv_iload C.1 C.2.1 hd (asl_at (i := 1) hl rfl) (k p e s m args below meth c R H locs ls cells slots Q C X hP hS hl hc)
theorem g_iload_n1 {a0 : Option Value} {t : List (Option Value)} {x : Int32} (pc' : Nat) (hp : pc + 1 = pc') (hd : decode cc pc = .ok (.iload_n 1, 1)) (k : G V E d own cc nL rt pc' (a0 :: some (.int x) :: t) (.int x :: st) h post) : G V E d own cc nL rt pc (a0 :: some (.int x) :: t) (st) h post := by
  subst hp
  exact fun p e s m args below meth c R H locs ls cells slots Q C X hP hS hl hc => lv_iload_n C.1 C.2.1 hd rfl (asl_at (i := 1) hl rfl) (k p e s m args below meth c R H locs ls cells slots Q C X hP hS hl hc)
theorem g_aload1 {a0 : Option Value} {t : List (Option Value)} {x : Nat} (pc' : Nat) (hp : pc + 2 = pc') (hd : decode cc pc = .ok (.aload 1, 2)) (k : G V E d own cc nL rt pc' (a0 :: some (rf V x) :: t) (rf V x :: st) h post) : G V E d own cc nL rt pc (a0 :: some (rf V x) :: t) (st) h post := by
  subst hp
  exact fun p e s m args below meth c R H locs ls cells slots Q C X hP hS hl hc => lv_aload C.1 C.2.1 hd (asl_at (i := 1) hl rfl) (k p e s m args below meth c R H locs ls cells slots Q C X hP hS hl hc)
theorem g_aload_n1 {a0 : Option Value} {t : List (Option Value)} {x : Nat} (pc' : Nat) (hp : pc + 1 = pc') (hd : decode cc pc = .ok (.aload_n 1, 1)) (k : G V E d own cc nL rt pc' (a0 :: some (rf V x) :: t) (rf V x :: st) h post) : G V E d own cc nL rt pc (a0 :: some (rf V x) :: t) (st) h post := by
  subst hp
  exact fun p e s m args below meth c R H locs ls cells slots Q C X hP hS hl hc => lv_aload_n C.1 C.2.1 hd rfl (asl_at (i := 1) hl rfl) (k p e s m args below meth c R H locs ls cells slots Q C X hP hS hl hc)
theorem g_lload1 {a0 : Option Value} {t : List (Option Value)} {x : Int64} (pc' : Nat) (hp : pc + 2 = pc') (hd : decode cc pc = .ok (.lload 1, 2)) (k : G V E d own cc nL rt pc' (a0 :: some (.long x) :: t) (.long x :: st) h post) : G V E d own cc nL rt pc (a0 :: some (.long x) :: t) (st) h post := by
  subst hp
  exact fun p e s m args below meth c R H locs ls cells slots Q C X hP hS hl hc => lv_lload C.1 C.2.1 hd (asl_at (i := 1) hl rfl) (k p e s m args below meth c R H locs ls cells slots Q C X hP hS hl hc)
theorem g_lload_n1 {a0 : Option Value} {t : List (Option Value)} {x : Int64} (pc' : Nat) (hp : pc + 1 = pc') (hd : decode cc pc = .ok (.lload_n 1, 1)) (k : G V E d own cc nL rt pc' (a0 :: some (.long x) :: t) (.long x :: st) h post) : G V E d own cc nL rt pc (a0 :: some (.long x) :: t) (st) h post := by
  subst hp
  exact fun p e s m args below meth c R H locs ls cells slots Q C X hP hS hl hc => lv_lload_n C.1 C.2.1 hd rfl (asl_at (i := 1) hl rfl) (k p e s m args below meth c R H locs ls cells slots Q C X hP hS hl hc)
theorem g_istore1 {a0 b : Option Value} {t : List (Option Value)} {x : Int32} (pc' : Nat) (hp : pc + 2 = pc') (hd : decode cc pc = .ok (.istore 1, 2)) (hn : 1 < nL) (hcat : catOK a0 = true) (k : G V E d own cc nL rt pc' (a0 :: some (.int x) :: t) (st) h post) : G V E d own cc nL rt pc (a0 :: b :: t) (.int x :: st) h post := by
  subst hp
  exact fun p e s m args below meth c R H locs ls cells slots Q C X hP hS hl hc => lv_istore C.1 C.2.1 hd hl hn rfl (fun ls' hl' => k p e s m args below meth c R H locs ls' cells slots Q C X hP hS (asl_st (lv := (a0 :: b :: t)) (i := 1) hl' rfl (by simp only [List.length_cons]; omega) (fun j w hj hw => asl_cat (i := 1) (a := a0) rfl hcat (j := j) hj hw)) hc)
theorem g_istore_n1 {a0 b : Option Value} {t : List (Option Value)} {x : Int32} (pc' : Nat) (hp : pc + 1 = pc') (hd : decode cc pc = .ok (.istore_n 1, 1)) (hn : 1 < nL) (hcat : catOK a0 = true) (k : G V E d own cc nL rt pc' (a0 :: some (.int x) :: t) (st) h post) : G V E d own cc nL rt pc (a0 :: b :: t) (.int x :: st) h post := by
  subst hp
  exact fun p e s m args below meth c R H locs ls cells slots Q C X hP hS hl hc => lv_istore_n C.1 C.2.1 hd rfl hl hn rfl (fun ls' hl' => k p e s m args below meth c R H locs ls' cells slots Q C X hP hS (asl_st (lv := (a0 :: b :: t)) (i := 1) hl' rfl (by simp only [List.length_cons]; omega) (fun j w hj hw => asl_cat (i := 1) (a := a0) rfl hcat (j := j) hj hw)) hc)
theorem g_astore1 {a0 b : Option Value} {t : List (Option Value)} {x : Nat} (pc' : Nat) (hp : pc + 2 = pc') (hd : decode cc pc = .ok (.astore 1, 2)) (hn : 1 < nL) (hcat : catOK a0 = true) (k : G V E d own cc nL rt pc' (a0 :: some (rf V x) :: t) (st) h post) : G V E d own cc nL rt pc (a0 :: b :: t) (rf V x :: st) h post := by
  subst hp
  exact fun p e s m args below meth c R H locs ls cells slots Q C X hP hS hl hc => lv_astore C.1 C.2.1 hd hl hn rfl (fun ls' hl' => k p e s m args below meth c R H locs ls' cells slots Q C X hP hS (asl_st (lv := (a0 :: b :: t)) (i := 1) hl' rfl (by simp only [List.length_cons]; omega) (fun j w hj hw => asl_cat (i := 1) (a := a0) rfl hcat (j := j) hj hw)) hc)
theorem g_astore_n1 {a0 b : Option Value} {t : List (Option Value)} {x : Nat} (pc' : Nat) (hp : pc + 1 = pc') (hd : decode cc pc = .ok (.astore_n 1, 1)) (hn : 1 < nL) (hcat : catOK a0 = true) (k : G V E d own cc nL rt pc' (a0 :: some (rf V x) :: t) (st) h post) : G V E d own cc nL rt pc (a0 :: b :: t) (rf V x :: st) h post := by
  subst hp
  exact fun p e s m args below meth c R H locs ls cells slots Q C X hP hS hl hc => lv_astore_n C.1 C.2.1 hd rfl hl hn rfl (fun ls' hl' => k p e s m args below meth c R H locs ls' cells slots Q C X hP hS (asl_st (lv := (a0 :: b :: t)) (i := 1) hl' rfl (by simp only [List.length_cons]; omega) (fun j w hj hw => asl_cat (i := 1) (a := a0) rfl hcat (j := j) hj hw)) hc)
theorem g_iinc1 {a0 : Option Value} {t : List (Option Value)} {x v : Int32} {n : Int} (pc' : Nat) (hp : pc + 3 = pc') (hd : decode cc pc = .ok (.iinc 1 n, 3)) (hv : x + Int32.ofInt n = v) (hn : 1 < nL) (hcat : catOK a0 = true) (k : G V E d own cc nL rt pc' (a0 :: some (.int v) :: t) (st) h post) : G V E d own cc nL rt pc (a0 :: some (.int x) :: t) (st) h post := by
  subst hp
  intro p e s m args below meth c R H locs ls cells slots Q C X hP hS hl hc
  obtain ⟨q, hq⟩ := List.getElem?_of_mem ((asl_mem (a0 :: some (.int x) :: t) 0 1 (.int x)).mpr ⟨1, by omega, rfl⟩)
  exact lv_iinc C.1 C.2.1 hd hl hq hv hn rfl (fun ls' hl' => k p e s m args below meth c R H locs ls' cells slots Q C X hP hS (asl_st (lv := (a0 :: some (.int x) :: t)) (i := 1) hl' rfl (by simp only [List.length_cons]; omega) (fun j w hj hw => asl_cat (i := 1) (a := a0) rfl hcat (j := j) hj hw)) hc)
theorem gn_iinc1 {a0 : Option Value} {t : List (Option Value)} {x : Nat} {n : Int} (z : Nat) (pc' : Nat) (hp : pc + 3 = pc') (hd : decode cc pc = .ok (.iinc 1 n, 3)) (hz : Int32.ofInt n = nI z) (hn : 1 < nL) (hcat : catOK a0 = true) (k : G V E d own cc nL rt pc' (a0 :: some (.int (nI (x + z))) :: t) (st) h post) : G V E d own cc nL rt pc (a0 :: some (.int (nI x)) :: t) (st) h post := g_iinc1 pc' hp hd (by rw [hz, nI_add]) hn hcat k
theorem g_iload2 {a0 a1 : Option Value} {t : List (Option Value)} {x : Int32} (pc' : Nat) (hp : pc + 2 = pc') (hd : decode cc pc = .ok (.iload 2, 2)) (k : G V E d own cc nL rt pc' (a0 :: a1 :: some (.int x) :: t) (.int x :: st) h post) : G V E d own cc nL rt pc (a0 :: a1 :: some (.int x) :: t) (st) h post := by
  subst hp
  exact fun p e s m args below meth c R H locs ls cells slots Q C X hP hS hl hc => lv_iload C.1 C.2.1 hd (asl_at (i := 2) hl rfl) (k p e s m args below meth c R H locs ls cells slots Q C X hP hS hl hc)
theorem g_iload_n2 {a0 a1 : Option Value} {t : List (Option Value)} {x : Int32} (pc' : Nat) (hp : pc + 1 = pc') (hd : decode cc pc = .ok (.iload_n 2, 1)) (k : G V E d own cc nL rt pc' (a0 :: a1 :: some (.int x) :: t) (.int x :: st) h post) : G V E d own cc nL rt pc (a0 :: a1 :: some (.int x) :: t) (st) h post := by
  subst hp
  exact fun p e s m args below meth c R H locs ls cells slots Q C X hP hS hl hc => lv_iload_n C.1 C.2.1 hd rfl (asl_at (i := 2) hl rfl) (k p e s m args below meth c R H locs ls cells slots Q C X hP hS hl hc)
theorem g_aload2 {a0 a1 : Option Value} {t : List (Option Value)} {x : Nat} (pc' : Nat) (hp : pc + 2 = pc') (hd : decode cc pc = .ok (.aload 2, 2)) (k : G V E d own cc nL rt pc' (a0 :: a1 :: some (rf V x) :: t) (rf V x :: st) h post) : G V E d own cc nL rt pc (a0 :: a1 :: some (rf V x) :: t) (st) h post := by
  subst hp
  exact fun p e s m args below meth c R H locs ls cells slots Q C X hP hS hl hc => lv_aload C.1 C.2.1 hd (asl_at (i := 2) hl rfl) (k p e s m args below meth c R H locs ls cells slots Q C X hP hS hl hc)
theorem g_aload_n2 {a0 a1 : Option Value} {t : List (Option Value)} {x : Nat} (pc' : Nat) (hp : pc + 1 = pc') (hd : decode cc pc = .ok (.aload_n 2, 1)) (k : G V E d own cc nL rt pc' (a0 :: a1 :: some (rf V x) :: t) (rf V x :: st) h post) : G V E d own cc nL rt pc (a0 :: a1 :: some (rf V x) :: t) (st) h post := by
  subst hp
  exact fun p e s m args below meth c R H locs ls cells slots Q C X hP hS hl hc => lv_aload_n C.1 C.2.1 hd rfl (asl_at (i := 2) hl rfl) (k p e s m args below meth c R H locs ls cells slots Q C X hP hS hl hc)
theorem g_lload2 {a0 a1 : Option Value} {t : List (Option Value)} {x : Int64} (pc' : Nat) (hp : pc + 2 = pc') (hd : decode cc pc = .ok (.lload 2, 2)) (k : G V E d own cc nL rt pc' (a0 :: a1 :: some (.long x) :: t) (.long x :: st) h post) : G V E d own cc nL rt pc (a0 :: a1 :: some (.long x) :: t) (st) h post := by
  subst hp
  exact fun p e s m args below meth c R H locs ls cells slots Q C X hP hS hl hc => lv_lload C.1 C.2.1 hd (asl_at (i := 2) hl rfl) (k p e s m args below meth c R H locs ls cells slots Q C X hP hS hl hc)
theorem g_lload_n2 {a0 a1 : Option Value} {t : List (Option Value)} {x : Int64} (pc' : Nat) (hp : pc + 1 = pc') (hd : decode cc pc = .ok (.lload_n 2, 1)) (k : G V E d own cc nL rt pc' (a0 :: a1 :: some (.long x) :: t) (.long x :: st) h post) : G V E d own cc nL rt pc (a0 :: a1 :: some (.long x) :: t) (st) h post := by
  subst hp
  exact fun p e s m args below meth c R H locs ls cells slots Q C X hP hS hl hc => lv_lload_n C.1 C.2.1 hd rfl (asl_at (i := 2) hl rfl) (k p e s m args below meth c R H locs ls cells slots Q C X hP hS hl hc)
theorem g_istore2 {a0 a1 b : Option Value} {t : List (Option Value)} {x : Int32} (pc' : Nat) (hp : pc + 2 = pc') (hd : decode cc pc = .ok (.istore 2, 2)) (hn : 2 < nL) (hcat : catOK a1 = true) (k : G V E d own cc nL rt pc' (a0 :: a1 :: some (.int x) :: t) (st) h post) : G V E d own cc nL rt pc (a0 :: a1 :: b :: t) (.int x :: st) h post := by
  subst hp
  exact fun p e s m args below meth c R H locs ls cells slots Q C X hP hS hl hc => lv_istore C.1 C.2.1 hd hl hn rfl (fun ls' hl' => k p e s m args below meth c R H locs ls' cells slots Q C X hP hS (asl_st (lv := (a0 :: a1 :: b :: t)) (i := 2) hl' rfl (by simp only [List.length_cons]; omega) (fun j w hj hw => asl_cat (i := 2) (a := a1) rfl hcat (j := j) hj hw)) hc)
theorem g_istore_n2 {a0 a1 b : Option Value} {t : List (Option Value)} {x : Int32} (pc' : Nat) (hp : pc + 1 = pc') (hd : decode cc pc = .ok (.istore_n 2, 1)) (hn : 2 < nL) (hcat : catOK a1 = true) (k : G V E d own cc nL rt pc' (a0 :: a1 :: some (.int x) :: t) (st) h post) : G V E d own cc nL rt pc (a0 :: a1 :: b :: t) (.int x :: st) h post := by
  subst hp
  exact fun p e s m args below meth c R H locs ls cells slots Q C X hP hS hl hc => lv_istore_n C.1 C.2.1 hd rfl hl hn rfl (fun ls' hl' => k p e s m args below meth c R H locs ls' cells slots Q C X hP hS (asl_st (lv := (a0 :: a1 :: b :: t)) (i := 2) hl' rfl (by simp only [List.length_cons]; omega) (fun j w hj hw => asl_cat (i := 2) (a := a1) rfl hcat (j := j) hj hw)) hc)
theorem g_astore2 {a0 a1 b : Option Value} {t : List (Option Value)} {x : Nat} (pc' : Nat) (hp : pc + 2 = pc') (hd : decode cc pc = .ok (.astore 2, 2)) (hn : 2 < nL) (hcat : catOK a1 = true) (k : G V E d own cc nL rt pc' (a0 :: a1 :: some (rf V x) :: t) (st) h post) : G V E d own cc nL rt pc (a0 :: a1 :: b :: t) (rf V x :: st) h post := by
  subst hp
  exact fun p e s m args below meth c R H locs ls cells slots Q C X hP hS hl hc => lv_astore C.1 C.2.1 hd hl hn rfl (fun ls' hl' => k p e s m args below meth c R H locs ls' cells slots Q C X hP hS (asl_st (lv := (a0 :: a1 :: b :: t)) (i := 2) hl' rfl (by simp only [List.length_cons]; omega) (fun j w hj hw => asl_cat (i := 2) (a := a1) rfl hcat (j := j) hj hw)) hc)
theorem g_astore_n2 {a0 a1 b : Option Value} {t : List (Option Value)} {x : Nat} (pc' : Nat) (hp : pc + 1 = pc') (hd : decode cc pc = .ok (.astore_n 2, 1)) (hn : 2 < nL) (hcat : catOK a1 = true) (k : G V E d own cc nL rt pc' (a0 :: a1 :: some (rf V x) :: t) (st) h post) : G V E d own cc nL rt pc (a0 :: a1 :: b :: t) (rf V x :: st) h post := by
  subst hp
  exact fun p e s m args below meth c R H locs ls cells slots Q C X hP hS hl hc => lv_astore_n C.1 C.2.1 hd rfl hl hn rfl (fun ls' hl' => k p e s m args below meth c R H locs ls' cells slots Q C X hP hS (asl_st (lv := (a0 :: a1 :: b :: t)) (i := 2) hl' rfl (by simp only [List.length_cons]; omega) (fun j w hj hw => asl_cat (i := 2) (a := a1) rfl hcat (j := j) hj hw)) hc)
theorem g_iinc2 {a0 a1 : Option Value} {t : List (Option Value)} {x v : Int32} {n : Int} (pc' : Nat) (hp : pc + 3 = pc') (hd : decode cc pc = .ok (.iinc 2 n, 3)) (hv : x + Int32.ofInt n = v) (hn : 2 < nL) (hcat : catOK a1 = true) (k : G V E d own cc nL rt pc' (a0 :: a1 :: some (.int v) :: t) (st) h post) : G V E d own cc nL rt pc (a0 :: a1 :: some (.int x) :: t) (st) h post := by
  subst hp
  intro p e s m args below meth c R H locs ls cells slots Q C X hP hS hl hc
  obtain ⟨q, hq⟩ := List.getElem?_of_mem ((asl_mem (a0 :: a1 :: some (.int x) :: t) 0 2 (.int x)).mpr ⟨2, by omega, rfl⟩)
  exact lv_iinc C.1 C.2.1 hd hl hq hv hn rfl (fun ls' hl' => k p e s m args below meth c R H locs ls' cells slots Q C X hP hS (asl_st (lv := (a0 :: a1 :: some (.int x) :: t)) (i := 2) hl' rfl (by simp only [List.length_cons]; omega) (fun j w hj hw => asl_cat (i := 2) (a := a1) rfl hcat (j := j) hj hw)) hc)
theorem gn_iinc2 {a0 a1 : Option Value} {t : List (Option Value)} {x : Nat} {n : Int} (z : Nat) (pc' : Nat) (hp : pc + 3 = pc') (hd : decode cc pc = .ok (.iinc 2 n, 3)) (hz : Int32.ofInt n = nI z) (hn : 2 < nL) (hcat : catOK a1 = true) (k : G V E d own cc nL rt pc' (a0 :: a1 :: some (.int (nI (x + z))) :: t) (st) h post) : G V E d own cc nL rt pc (a0 :: a1 :: some (.int (nI x)) :: t) (st) h post := g_iinc2 pc' hp hd (by rw [hz, nI_add]) hn hcat k
theorem g_iload3 {a0 a1 a2 : Option Value} {t : List (Option Value)} {x : Int32} (pc' : Nat) (hp : pc + 2 = pc') (hd : decode cc pc = .ok (.iload 3, 2)) (k : G V E d own cc nL rt pc' (a0 :: a1 :: a2 :: some (.int x) :: t) (.int x :: st) h post) : G V E d own cc nL rt pc (a0 :: a1 :: a2 :: some (.int x) :: t) (st) h post := by
  subst hp
  exact fun p e s m args below meth c R H locs ls cells slots Q C X hP hS hl hc => lv_iload C.1 C.2.1 hd (asl_at (i := 3) hl rfl) (k p e s m args below meth c R H locs ls cells slots Q C X hP hS hl hc)
theorem g_iload_n3 {a0 a1 a2 : Option Value} {t : List (Option Value)} {x : Int32} (pc' : Nat) (hp : pc + 1 = pc') (hd : decode cc pc = .ok (.iload_n 3, 1)) (k : G V E d own cc nL rt pc' (a0 :: a1 :: a2 :: some (.int x) :: t) (.int x :: st) h post) : G V E d own cc nL rt pc (a0 :: a1 :: a2 :: some (.int x) :: t) (st) h post := by
  subst hp
  exact fun p e s m args below meth c R H locs ls cells slots Q C X hP hS hl hc => lv_iload_n C.1 C.2.1 hd rfl (asl_at (i := 3) hl rfl) (k p e s m args below meth c R H locs ls cells slots Q C X hP hS hl hc)
theorem g_aload3 {a0 a1 a2 : Option Value} {t : List (Option Value)} {x : Nat} (pc' : Nat) (hp : pc + 2 = pc') (hd : decode cc pc = .ok (.aload 3, 2)) (k : G V E d own cc nL rt pc' (a0 :: a1 :: a2 :: some (rf V x) :: t) (rf V x :: st) h post) : G V E d own cc nL rt pc (a0 :: a1 :: a2 :: some (rf V x) :: t) (st) h post := by
  subst hp
  exact fun p e s m args below meth c R H locs ls cells slots Q C X hP hS hl hc => lv_aload C.1 C.2.1 hd (asl_at (i := 3) hl rfl) (k p e s m args below meth c R H locs ls cells slots Q C X hP hS hl hc)
theorem g_aload_n3 {a0 a1 a2 : Option Value} {t : List (Option Value)} {x : Nat} (pc' : Nat) (hp : pc + 1 = pc') (hd : decode cc pc = .ok (.aload_n 3, 1)) (k : G V E d own cc nL rt pc' (a0 :: a1 :: a2 :: some (rf V x) :: t) (rf V x :: st) h post) : G V E d own cc nL rt pc (a0 :: a1 :: a2 :: some (rf V x) :: t) (st) h post := by
  subst hp
  exact fun p e s m args below meth c R H locs ls cells slots Q C X hP hS hl hc => lv_aload_n C.1 C.2.1 hd rfl (asl_at (i := 3) hl rfl) (k p e s m args below meth c R H locs ls cells slots Q C X hP hS hl hc)
theorem g_lload3 {a0 a1 a2 : Option Value} {t : List (Option Value)} {x : Int64} (pc' : Nat) (hp : pc + 2 = pc') (hd : decode cc pc = .ok (.lload 3, 2)) (k : G V E d own cc nL rt pc' (a0 :: a1 :: a2 :: some (.long x) :: t) (.long x :: st) h post) : G V E d own cc nL rt pc (a0 :: a1 :: a2 :: some (.long x) :: t) (st) h post := by
  subst hp
  exact fun p e s m args below meth c R H locs ls cells slots Q C X hP hS hl hc => lv_lload C.1 C.2.1 hd (asl_at (i := 3) hl rfl) (k p e s m args below meth c R H locs ls cells slots Q C X hP hS hl hc)
theorem g_lload_n3 {a0 a1 a2 : Option Value} {t : List (Option Value)} {x : Int64} (pc' : Nat) (hp : pc + 1 = pc') (hd : decode cc pc = .ok (.lload_n 3, 1)) (k : G V E d own cc nL rt pc' (a0 :: a1 :: a2 :: some (.long x) :: t) (.long x :: st) h post) : G V E d own cc nL rt pc (a0 :: a1 :: a2 :: some (.long x) :: t) (st) h post := by
  subst hp
  exact fun p e s m args below meth c R H locs ls cells slots Q C X hP hS hl hc => lv_lload_n C.1 C.2.1 hd rfl (asl_at (i := 3) hl rfl) (k p e s m args below meth c R H locs ls cells slots Q C X hP hS hl hc)
theorem g_istore3 {a0 a1 a2 b : Option Value} {t : List (Option Value)} {x : Int32} (pc' : Nat) (hp : pc + 2 = pc') (hd : decode cc pc = .ok (.istore 3, 2)) (hn : 3 < nL) (hcat : catOK a2 = true) (k : G V E d own cc nL rt pc' (a0 :: a1 :: a2 :: some (.int x) :: t) (st) h post) : G V E d own cc nL rt pc (a0 :: a1 :: a2 :: b :: t) (.int x :: st) h post := by
  subst hp
  exact fun p e s m args below meth c R H locs ls cells slots Q C X hP hS hl hc => lv_istore C.1 C.2.1 hd hl hn rfl (fun ls' hl' => k p e s m args below meth c R H locs ls' cells slots Q C X hP hS (asl_st (lv := (a0 :: a1 :: a2 :: b :: t)) (i := 3) hl' rfl (by simp only [List.length_cons]; omega) (fun j w hj hw => asl_cat (i := 3) (a := a2) rfl hcat (j := j) hj hw)) hc)
theorem g_istore_n3 {a0 a1 a2 b : Option Value} {t : List (Option Value)} {x : Int32} (pc' : Nat) (hp : pc + 1 = pc') (hd : decode cc pc = .ok (.istore_n 3, 1)) (hn : 3 < nL) (hcat : catOK a2 = true) (k : G V E d own cc nL rt pc' (a0 :: a1 :: a2 :: some (.int x) :: t) (st) h post) : G V E d own cc nL rt pc (a0 :: a1 :: a2 :: b :: t) (.int x :: st) h post := by
  subst hp
  exact fun p e s m args below meth c R H locs ls cells slots Q C X hP hS hl hc => lv_istore_n C.1 C.2.1 hd rfl hl hn rfl (fun ls' hl' => k p e s m args below meth c R H locs ls' cells slots Q C X hP hS (asl_st (lv := (a0 :: a1 :: a2 :: b :: t)) (i := 3) hl' rfl (by simp only [List.length_cons]; omega) (fun j w hj hw => asl_cat (i := 3) (a := a2) rfl hcat (j := j) hj hw)) hc)
theorem g_astore3 {a0 a1 a2 b : Option Value} {t : List (Option Value)} {x : Nat} (pc' : Nat) (hp : pc + 2 = pc') (hd : decode cc pc = .ok (.astore 3, 2)) (hn : 3 < nL) (hcat : catOK a2 = true) (k : G V E d own cc nL rt pc' (a0 :: a1 :: a2 :: some (rf V x) :: t) (st) h post) : G V E d own cc nL rt pc (a0 :: a1 :: a2 :: b :: t) (rf V x :: st) h post := by
  subst hp
  exact fun p e s m args below meth c R H locs ls cells slots Q C X hP hS hl hc => lv_astore C.1 C.2.1 hd hl hn rfl (fun ls' hl' => k p e s m args below meth c R H locs ls' cells slots Q C X hP hS (asl_st (lv := (a0 :: a1 :: a2 :: b :: t)) (i := 3) hl' rfl (by simp only [List.length_cons]; omega) (fun j w hj hw => asl_cat (i := 3) (a := a2) rfl hcat (j := j) hj hw)) hc)
theorem g_astore_n3 {a0 a1 a2 b : Option Value} {t : List (Option Value)} {x : Nat} (pc' : Nat) (hp : pc + 1 = pc') (hd : decode cc pc = .ok (.astore_n 3, 1)) (hn : 3 < nL) (hcat : catOK a2 = true) (k : G V E d own cc nL rt pc' (a0 :: a1 :: a2 :: some (rf V x) :: t) (st) h post) : G V E d own cc nL rt pc (a0 :: a1 :: a2 :: b :: t) (rf V x :: st) h post := by
  subst hp
  exact fun p e s m args below meth c R H locs ls cells slots Q C X hP hS hl hc => lv_astore_n C.1 C.2.1 hd rfl hl hn rfl (fun ls' hl' => k p e s m args below meth c R H locs ls' cells slots Q C X hP hS (asl_st (lv := (a0 :: a1 :: a2 :: b :: t)) (i := 3) hl' rfl (by simp only [List.length_cons]; omega) (fun j w hj hw => asl_cat (i := 3) (a := a2) rfl hcat (j := j) hj hw)) hc)
theorem g_iinc3 {a0 a1 a2 : Option Value} {t : List (Option Value)} {x v : Int32} {n : Int} (pc' : Nat) (hp : pc + 3 = pc') (hd : decode cc pc = .ok (.iinc 3 n, 3)) (hv : x + Int32.ofInt n = v) (hn : 3 < nL) (hcat : catOK a2 = true) (k : G V E d own cc nL rt pc' (a0 :: a1 :: a2 :: some (.int v) :: t) (st) h post) : G V E d own cc nL rt pc (a0 :: a1 :: a2 :: some (.int x) :: t) (st) h post := by
  subst hp
  intro p e s m args below meth c R H locs ls cells slots Q C X hP hS hl hc
  obtain ⟨q, hq⟩ := List.getElem?_of_mem ((asl_mem (a0 :: a1 :: a2 :: some (.int x) :: t) 0 3 (.int x)).mpr ⟨3, by omega, rfl⟩)
  exact lv_iinc C.1 C.2.1 hd hl hq hv hn rfl (fun ls' hl' => k p e s m args below meth c R H locs ls' cells slots Q C X hP hS (asl_st (lv := (a0 :: a1 :: a2 :: some (.int x) :: t)) (i := 3) hl' rfl (by simp only [List.length_cons]; omega) (fun j w hj hw => asl_cat (i := 3) (a := a2) rfl hcat (j := j) hj hw)) hc)
theorem gn_iinc3 {a0 a1 a2 : Option Value} {t : List (Option Value)} {x : Nat} {n : Int} (z : Nat) (pc' : Nat) (hp : pc + 3 = pc') (hd : decode cc pc = .ok (.iinc 3 n, 3)) (hz : Int32.ofInt n = nI z) (hn : 3 < nL) (hcat : catOK a2 = true) (k : G V E d own cc nL rt pc' (a0 :: a1 :: a2 :: some (.int (nI (x + z))) :: t) (st) h post) : G V E d own cc nL rt pc (a0 :: a1 :: a2 :: some (.int (nI x)) :: t) (st) h post := g_iinc3 pc' hp hd (by rw [hz, nI_add]) hn hcat k
theorem g_iload4 {a0 a1 a2 a3 : Option Value} {t : List (Option Value)} {x : Int32} (pc' : Nat) (hp : pc + 2 = pc') (hd : decode cc pc = .ok (.iload 4, 2)) (k : G V E d own cc nL rt pc' (a0 :: a1 :: a2 :: a3 :: some (.int x) :: t) (.int x :: st) h post) : G V E d own cc nL rt pc (a0 :: a1 :: a2 :: a3 :: some (.int x) :: t) (st) h post := by
  subst hp
  exact fun p e s m args below meth c R H locs ls cells slots Q C X hP hS hl hc => lv_iload C.1 C.2.1 hd (asl_at (i := 4) hl rfl) (k p e s m args below meth c R H locs ls cells slots Q C X hP hS hl hc)
theorem g_aload4 {a0 a1 a2 a3 : Option Value} {t : List (Option Value)} {x : Nat} (pc' : Nat) (hp : pc + 2 = pc') (hd : decode cc pc = .ok (.aload 4, 2)) (k : G V E d own cc nL rt pc' (a0 :: a1 :: a2 :: a3 :: some (rf V x) :: t) (rf V x :: st) h post) : G V E d own cc nL rt pc (a0 :: a1 :: a2 :: a3 :: some (rf V x) :: t) (st) h post := by
  subst hp
  exact fun p e s m args below meth c R H locs ls cells slots Q C X hP hS hl hc => lv_aload C.1 C.2.1 hd (asl_at (i := 4) hl rfl) (k p e s m args below meth c R H locs ls cells slots Q C X hP hS hl hc)
theorem g_lload4 {a0 a1 a2 a3 : Option Value} {t : List (Option Value)} {x : Int64} (pc' : Nat) (hp : pc + 2 = pc') (hd : decode cc pc = .ok (.lload 4, 2)) (k : G V E d own cc nL rt pc' (a0 :: a1 :: a2 :: a3 :: some (.long x) :: t) (.long x :: st) h post) : G V E d own cc nL rt pc (a0 :: a1 :: a2 :: a3 :: some (.long x) :: t) (st) h post := by
  subst hp
  exact fun p e s m args below meth c R H locs ls cells slots Q C X hP hS hl hc => lv_lload C.1 C.2.1 hd (asl_at (i := 4) hl rfl) (k p e s m args below meth c R H locs ls cells slots Q C X hP hS hl hc)
theorem g_istore4 {a0 a1 a2 a3 b : Option Value} {t : List (Option Value)} {x : Int32} (pc' : Nat) (hp : pc + 2 = pc') (hd : decode cc pc = .ok (.istore 4, 2)) (hn : 4 < nL) (hcat : catOK a3 = true) (k : G V E d own cc nL rt pc' (a0 :: a1 :: a2 :: a3 :: some (.int x) :: t) (st) h post) : G V E d own cc nL rt pc (a0 :: a1 :: a2 :: a3 :: b :: t) (.int x :: st) h post := by
  subst hp
  exact fun p e s m args below meth c R H locs ls cells slots Q C X hP hS hl hc => lv_istore C.1 C.2.1 hd hl hn rfl (fun ls' hl' => k p e s m args below meth c R H locs ls' cells slots Q C X hP hS (asl_st (lv := (a0 :: a1 :: a2 :: a3 :: b :: t)) (i := 4) hl' rfl (by simp only [List.length_cons]; omega) (fun j w hj hw => asl_cat (i := 4) (a := a3) rfl hcat (j := j) hj hw)) hc)
theorem g_astore4 {a0 a1 a2 a3 b : Option Value} {t : List (Option Value)} {x : Nat} (pc' : Nat) (hp : pc + 2 = pc') (hd : decode cc pc = .ok (.astore 4, 2)) (hn : 4 < nL) (hcat : catOK a3 = true) (k : G V E d own cc nL rt pc' (a0 :: a1 :: a2 :: a3 :: some (rf V x) :: t) (st) h post) : G V E d own cc nL rt pc (a0 :: a1 :: a2 :: a3 :: b :: t) (rf V x :: st) h post := by
  subst hp
  exact fun p e s m args below meth c R H locs ls cells slots Q C X hP hS hl hc => lv_astore C.1 C.2.1 hd hl hn rfl (fun ls' hl' => k p e s m args below meth c R H locs ls' cells slots Q C X hP hS (asl_st (lv := (a0 :: a1 :: a2 :: a3 :: b :: t)) (i := 4) hl' rfl (by simp only [List.length_cons]; omega) (fun j w hj hw => asl_cat (i := 4) (a := a3) rfl hcat (j := j) hj hw)) hc)
theorem g_iinc4 {a0 a1 a2 a3 : Option Value} {t : List (Option Value)} {x v : Int32} {n : Int} (pc' : Nat) (hp : pc + 3 = pc') (hd : decode cc pc = .ok (.iinc 4 n, 3)) (hv : x + Int32.ofInt n = v) (hn : 4 < nL) (hcat : catOK a3 = true) (k : G V E d own cc nL rt pc' (a0 :: a1 :: a2 :: a3 :: some (.int v) :: t) (st) h post) : G V E d own cc nL rt pc (a0 :: a1 :: a2 :: a3 :: some (.int x) :: t) (st) h post := by
  subst hp
  intro p e s m args below meth c R H locs ls cells slots Q C X hP hS hl hc
  obtain ⟨q, hq⟩ := List.getElem?_of_mem ((asl_mem (a0 :: a1 :: a2 :: a3 :: some (.int x) :: t) 0 4 (.int x)).mpr ⟨4, by omega, rfl⟩)
  exact lv_iinc C.1 C.2.1 hd hl hq hv hn rfl (fun ls' hl' => k p e s m args below meth c R H locs ls' cells slots Q C X hP hS (asl_st (lv := (a0 :: a1 :: a2 :: a3 :: some (.int x) :: t)) (i := 4) hl' rfl (by simp only [List.length_cons]; omega) (fun j w hj hw => asl_cat (i := 4) (a := a3) rfl hcat (j := j) hj hw)) hc)
theorem gn_iinc4 {a0 a1 a2 a3 : Option Value} {t : List (Option Value)} {x : Nat} {n : Int} (z : Nat) (pc' : Nat) (hp : pc + 3 = pc') (hd : decode cc pc = .ok (.iinc 4 n, 3)) (hz : Int32.ofInt n = nI z) (hn : 4 < nL) (hcat : catOK a3 = true) (k : G V E d own cc nL rt pc' (a0 :: a1 :: a2 :: a3 :: some (.int (nI (x + z))) :: t) (st) h post) : G V E d own cc nL rt pc (a0 :: a1 :: a2 :: a3 :: some (.int (nI x)) :: t) (st) h post := g_iinc4 pc' hp hd (by rw [hz, nI_add]) hn hcat k
theorem g_iload5 {a0 a1 a2 a3 a4 : Option Value} {t : List (Option Value)} {x : Int32} (pc' : Nat) (hp : pc + 2 = pc') (hd : decode cc pc = .ok (.iload 5, 2)) (k : G V E d own cc nL rt pc' (a0 :: a1 :: a2 :: a3 :: a4 :: some (.int x) :: t) (.int x :: st) h post) : G V E d own cc nL rt pc (a0 :: a1 :: a2 :: a3 :: a4 :: some (.int x) :: t) (st) h post := by
  subst hp
  exact fun p e s m args below meth c R H locs ls cells slots Q C X hP hS hl hc => lv_iload C.1 C.2.1 hd (asl_at (i := 5) hl rfl) (k p e s m args below meth c R H locs ls cells slots Q C X hP hS hl hc)
theorem g_aload5 {a0 a1 a2 a3 a4 : Option Value} {t : List (Option Value)} {x : Nat} (pc' : Nat) (hp : pc + 2 = pc') (hd : decode cc pc = .ok (.aload 5, 2)) (k : G V E d own cc nL rt pc' (a0 :: a1 :: a2 :: a3 :: a4 :: some (rf V x) :: t) (rf V x :: st) h post) : G V E d own cc nL rt pc (a0 :: a1 :: a2 :: a3 :: a4 :: some (rf V x) :: t) (st) h post := by
  subst hp
  exact fun p e s m args below meth c R H locs ls cells slots Q C X hP hS hl hc => lv_aload C.1 C.2.1 hd (asl_at (i := 5) hl rfl) (k p e s m args below meth c R H locs ls cells slots Q C X hP hS hl hc)
theorem g_lload5 {a0 a1 a2 a3 a4 : Option Value} {t : List (Option Value)} {x : Int64} (pc' : Nat) (hp : pc + 2 = pc') (hd : decode cc pc = .ok (.lload 5, 2)) (k : G V E d own cc nL rt pc' (a0 :: a1 :: a2 :: a3 :: a4 :: some (.long x) :: t) (.long x :: st) h post) : G V E d own cc nL rt pc (a0 :: a1 :: a2 :: a3 :: a4 :: some (.long x) :: t) (st) h post := by
  subst hp
  exact fun p e s m args below meth c R H locs ls cells slots Q C X hP hS hl hc => lv_lload C.1 C.2.1 hd (asl_at (i := 5) hl rfl) (k p e s m args below meth c R H locs ls cells slots Q C X hP hS hl hc)
theorem g_istore5 {a0 a1 a2 a3 a4 b : Option Value} {t : List (Option Value)} {x : Int32} (pc' : Nat) (hp : pc + 2 = pc') (hd : decode cc pc = .ok (.istore 5, 2)) (hn : 5 < nL) (hcat : catOK a4 = true) (k : G V E d own cc nL rt pc' (a0 :: a1 :: a2 :: a3 :: a4 :: some (.int x) :: t) (st) h post) : G V E d own cc nL rt pc (a0 :: a1 :: a2 :: a3 :: a4 :: b :: t) (.int x :: st) h post := by
  subst hp
  exact fun p e s m args below meth c R H locs ls cells slots Q C X hP hS hl hc => lv_istore C.1 C.2.1 hd hl hn rfl (fun ls' hl' => k p e s m args below meth c R H locs ls' cells slots Q C X hP hS (asl_st (lv := (a0 :: a1 :: a2 :: a3 :: a4 :: b :: t)) (i := 5) hl' rfl (by simp only [List.length_cons]; omega) (fun j w hj hw => asl_cat (i := 5) (a := a4) rfl hcat (j := j) hj hw)) hc)
theorem g_astore5 {a0 a1 a2 a3 a4 b : Option Value} {t : List (Option Value)} {x : Nat} (pc' : Nat) (hp : pc + 2 = pc') (hd : decode cc pc = .ok (.astore 5, 2)) (hn : 5 < nL) (hcat : catOK a4 = true) (k : G V E d own cc nL rt pc' (a0 :: a1 :: a2 :: a3 :: a4 :: some (rf V x) :: t) (st) h post) : G V E d own cc nL rt pc (a0 :: a1 :: a2 :: a3 :: a4 :: b :: t) (rf V x :: st) h post := by
  subst hp
  exact fun p e s m args below meth c R H locs ls cells slots Q C X hP hS hl hc => lv_astore C.1 C.2.1 hd hl hn rfl (fun ls' hl' => k p e s m args below meth c R H locs ls' cells slots Q C X hP hS (asl_st (lv := (a0 :: a1 :: a2 :: a3 :: a4 :: b :: t)) (i := 5) hl' rfl (by simp only [List.length_cons]; omega) (fun j w hj hw => asl_cat (i := 5) (a := a4) rfl hcat (j := j) hj hw)) hc)
theorem g_iinc5 {a0 a1 a2 a3 a4 : Option Value} {t : List (Option Value)} {x v : Int32} {n : Int} (pc' : Nat) (hp : pc + 3 = pc') (hd : decode cc pc = .ok (.iinc 5 n, 3)) (hv : x + Int32.ofInt n = v) (hn : 5 < nL) (hcat : catOK a4 = true) (k : G V E d own cc nL rt pc' (a0 :: a1 :: a2 :: a3 :: a4 :: some (.int v) :: t) (st) h post) : G V E d own cc nL rt pc (a0 :: a1 :: a2 :: a3 :: a4 :: some (.int x) :: t) (st) h post := by
  subst hp
  intro p e s m args below meth c R H locs ls cells slots Q C X hP hS hl hc
  obtain ⟨q, hq⟩ := List.getElem?_of_mem ((asl_mem (a0 :: a1 :: a2 :: a3 :: a4 :: some (.int x) :: t) 0 5 (.int x)).mpr ⟨5, by omega, rfl⟩)
  exact lv_iinc C.1 C.2.1 hd hl hq hv hn rfl (fun ls' hl' => k p e s m args below meth c R H locs ls' cells slots Q C X hP hS (asl_st (lv := (a0 :: a1 :: a2 :: a3 :: a4 :: some (.int x) :: t)) (i := 5) hl' rfl (by simp only [List.length_cons]; omega) (fun j w hj hw => asl_cat (i := 5) (a := a4) rfl hcat (j := j) hj hw)) hc)
theorem gn_iinc5 {a0 a1 a2 a3 a4 : Option Value} {t : List (Option Value)} {x : Nat} {n : Int} (z : Nat) (pc' : Nat) (hp : pc + 3 = pc') (hd : decode cc pc = .ok (.iinc 5 n, 3)) (hz : Int32.ofInt n = nI z) (hn : 5 < nL) (hcat : catOK a4 = true) (k : G V E d own cc nL rt pc' (a0 :: a1 :: a2 :: a3 :: a4 :: some (.int (nI (x + z))) :: t) (st) h post) : G V E d own cc nL rt pc (a0 :: a1 :: a2 :: a3 :: a4 :: some (.int (nI x)) :: t) (st) h post := g_iinc5 pc' hp hd (by rw [hz, nI_add]) hn hcat k
theorem g_iload6 {a0 a1 a2 a3 a4 a5 : Option Value} {t : List (Option Value)} {x : Int32} (pc' : Nat) (hp : pc + 2 = pc') (hd : decode cc pc = .ok (.iload 6, 2)) (k : G V E d own cc nL rt pc' (a0 :: a1 :: a2 :: a3 :: a4 :: a5 :: some (.int x) :: t) (.int x :: st) h post) : G V E d own cc nL rt pc (a0 :: a1 :: a2 :: a3 :: a4 :: a5 :: some (.int x) :: t) (st) h post := by
  subst hp
  exact fun p e s m args below meth c R H locs ls cells slots Q C X hP hS hl hc => lv_iload C.1 C.2.1 hd (asl_at (i := 6) hl rfl) (k p e s m args below meth c R H locs ls cells slots Q C X hP hS hl hc)
theorem g_aload6 {a0 a1 a2 a3 a4 a5 : Option Value} {t : List (Option Value)} {x : Nat} (pc' : Nat) (hp : pc + 2 = pc') (hd : decode cc pc = .ok (.aload 6, 2)) (k : G V E d own cc nL rt pc' (a0 :: a1 :: a2 :: a3 :: a4 :: a5 :: some (rf V x) :: t) (rf V x :: st) h post) : G V E d own cc nL rt pc (a0 :: a1 :: a2 :: a3 :: a4 :: a5 :: some (rf V x) :: t) (st) h post := by
  subst hp
  exact fun p e s m args below meth c R H locs ls cells slots Q C X hP hS hl hc => lv_aload C.1 C.2.1 hd (asl_at (i := 6) hl rfl) (k p e s m args below meth c R H locs ls cells slots Q C X hP hS hl hc)
theorem g_lload6 {a0 a1 a2 a3 a4 a5 : Option Value} {t : List (Option Value)} {x : Int64} (pc' : Nat) (hp : pc + 2 = pc') (hd : decode cc pc = .ok (.lload 6, 2)) (k : G V E d own cc nL rt pc' (a0 :: a1 :: a2 :: a3 :: a4 :: a5 :: some (.long x) :: t) (.long x :: st) h post) : G V E d own cc nL rt pc (a0 :: a1 :: a2 :: a3 :: a4 :: a5 :: some (.long x) :: t) (st) h post := by
  subst hp
  exact fun p e s m args below meth c R H locs ls cells slots Q C X hP hS hl hc => lv_lload C.1 C.2.1 hd (asl_at (i := 6) hl rfl) (k p e s m args below meth c R H locs ls cells slots Q C X hP hS hl hc)
theorem g_istore6 {a0 a1 a2 a3 a4 a5 b : Option Value} {t : List (Option Value)} {x : Int32} (pc' : Nat) (hp : pc + 2 = pc') (hd : decode cc pc = .ok (.istore 6, 2)) (hn : 6 < nL) (hcat : catOK a5 = true) (k : G V E d own cc nL rt pc' (a0 :: a1 :: a2 :: a3 :: a4 :: a5 :: some (.int x) :: t) (st) h post) : G V E d own cc nL rt pc (a0 :: a1 :: a2 :: a3 :: a4 :: a5 :: b :: t) (.int x :: st) h post := by
  subst hp
  exact fun p e s m args below meth c R H locs ls cells slots Q C X hP hS hl hc => lv_istore C.1 C.2.1 hd hl hn rfl (fun ls' hl' => k p e s m args below meth c R H locs ls' cells slots Q C X hP hS (asl_st (lv := (a0 :: a1 :: a2 :: a3 :: a4 :: a5 :: b :: t)) (i := 6) hl' rfl (by simp only [List.length_cons]; omega) (fun j w hj hw => asl_cat (i := 6) (a := a5) rfl hcat (j := j) hj hw)) hc)
theorem g_astore6 {a0 a1 a2 a3 a4 a5 b : Option Value} {t : List (Option Value)} {x : Nat} (pc' : Nat) (hp : pc + 2 = pc') (hd : decode cc pc = .ok (.astore 6, 2)) (hn : 6 < nL) (hcat : catOK a5 = true) (k : G V E d own cc nL rt pc' (a0 :: a1 :: a2 :: a3 :: a4 :: a5 :: some (rf V x) :: t) (st) h post) : G V E d own cc nL rt pc (a0 :: a1 :: a2 :: a3 :: a4 :: a5 :: b :: t) (rf V x :: st) h post := by
  subst hp
  exact fun p e s m args below meth c R H locs ls cells slots Q C X hP hS hl hc => lv_astore C.1 C.2.1 hd hl hn rfl (fun ls' hl' => k p e s m args below meth c R H locs ls' cells slots Q C X hP hS (asl_st (lv := (a0 :: a1 :: a2 :: a3 :: a4 :: a5 :: b :: t)) (i := 6) hl' rfl (by simp only [List.length_cons]; omega) (fun j w hj hw => asl_cat (i := 6) (a := a5) rfl hcat (j := j) hj hw)) hc)
theorem g_iinc6 {a0 a1 a2 a3 a4 a5 : Option Value} {t : List (Option Value)} {x v : Int32} {n : Int} (pc' : Nat) (hp : pc + 3 = pc') (hd : decode cc pc = .ok (.iinc 6 n, 3)) (hv : x + Int32.ofInt n = v) (hn : 6 < nL) (hcat : catOK a5 = true) (k : G V E d own cc nL rt pc' (a0 :: a1 :: a2 :: a3 :: a4 :: a5 :: some (.int v) :: t) (st) h post) : G V E d own cc nL rt pc (a0 :: a1 :: a2 :: a3 :: a4 :: a5 :: some (.int x) :: t) (st) h post := by
  subst hp
  intro p e s m args below meth c R H locs ls cells slots Q C X hP hS hl hc
  obtain ⟨q, hq⟩ := List.getElem?_of_mem ((asl_mem (a0 :: a1 :: a2 :: a3 :: a4 :: a5 :: some (.int x) :: t) 0 6 (.int x)).mpr ⟨6, by omega, rfl⟩)
  exact lv_iinc C.1 C.2.1 hd hl hq hv hn rfl (fun ls' hl' => k p e s m args below meth c R H locs ls' cells slots Q C X hP hS (asl_st (lv := (a0 :: a1 :: a2 :: a3 :: a4 :: a5 :: some (.int x) :: t)) (i := 6) hl' rfl (by simp only [List.length_cons]; omega) (fun j w hj hw => asl_cat (i := 6) (a := a5) rfl hcat (j := j) hj hw)) hc)
theorem gn_iinc6 {a0 a1 a2 a3 a4 a5 : Option Value} {t : List (Option Value)} {x : Nat} {n : Int} (z : Nat) (pc' : Nat) (hp : pc + 3 = pc') (hd : decode cc pc = .ok (.iinc 6 n, 3)) (hz : Int32.ofInt n = nI z) (hn : 6 < nL) (hcat : catOK a5 = true) (k : G V E d own cc nL rt pc' (a0 :: a1 :: a2 :: a3 :: a4 :: a5 :: some (.int (nI (x + z))) :: t) (st) h post) : G V E d own cc nL rt pc (a0 :: a1 :: a2 :: a3 :: a4 :: a5 :: some (.int (nI x)) :: t) (st) h post := g_iinc6 pc' hp hd (by rw [hz, nI_add]) hn hcat k
theorem g_iload7 {a0 a1 a2 a3 a4 a5 a6 : Option Value} {t : List (Option Value)} {x : Int32} (pc' : Nat) (hp : pc + 2 = pc') (hd : decode cc pc = .ok (.iload 7, 2)) (k : G V E d own cc nL rt pc' (a0 :: a1 :: a2 :: a3 :: a4 :: a5 :: a6 :: some (.int x) :: t) (.int x :: st) h post) : G V E d own cc nL rt pc (a0 :: a1 :: a2 :: a3 :: a4 :: a5 :: a6 :: some (.int x) :: t) (st) h post := by
  subst hp
  exact fun p e s m args below meth c R H locs ls cells slots Q C X hP hS hl hc => lv_iload C.1 C.2.1 hd (asl_at (i := 7) hl rfl) (k p e s m args below meth c R H locs ls cells slots Q C X hP hS hl hc)
theorem g_aload7 {a0 a1 a2 a3 a4 a5 a6 : Option Value} {t : List (Option Value)} {x : Nat} (pc' : Nat) (hp : pc + 2 = pc') (hd : decode cc pc = .ok (.aload 7, 2)) (k : G V E d own cc nL rt pc' (a0 :: a1 :: a2 :: a3 :: a4 :: a5 :: a6 :: some (rf V x) :: t) (rf V x :: st) h post) : G V E d own cc nL rt pc (a0 :: a1 :: a2 :: a3 :: a4 :: a5 :: a6 :: some (rf V x) :: t) (st) h post := by
  subst hp
  exact fun p e s m args below meth c R H locs ls cells slots Q C X hP hS hl hc => lv_aload C.1 C.2.1 hd (asl_at (i := 7) hl rfl) (k p e s m args below meth c R H locs ls cells slots Q C X hP hS hl hc)
theorem g_lload7 {a0 a1 a2 a3 a4 a5 a6 : Option Value} {t : List (Option Value)} {x : Int64} (pc' : Nat) (hp : pc + 2 = pc') (hd : decode cc pc = .ok (.lload 7, 2)) (k : G V E d own cc nL rt pc' (a0 :: a1 :: a2 :: a3 :: a4 :: a5 :: a6 :: some (.long x) :: t) (.long x :: st) h post) : G V E d own cc nL rt pc (a0 :: a1 :: a2 :: a3 :: a4 :: a5 :: a6 :: some (.long x) :: t) (st) h post := by
  subst hp
  exact fun p e s m args below meth c R H locs ls cells slots Q C X hP hS hl hc => lv_lload C.1 C.2.1 hd (asl_at (i := 7) hl rfl) (k p e s m args below meth c R H locs ls cells slots Q C X hP hS hl hc)
theorem g_istore7 {a0 a1 a2 a3 a4 a5 a6 b : Option Value} {t : List (Option Value)} {x : Int32} (pc' : Nat) (hp : pc + 2 = pc') (hd : decode cc pc = .ok (.istore 7, 2)) (hn : 7 < nL) (hcat : catOK a6 = true) (k : G V E d own cc nL rt pc' (a0 :: a1 :: a2 :: a3 :: a4 :: a5 :: a6 :: some (.int x) :: t) (st) h post) : G V E d own cc nL rt pc (a0 :: a1 :: a2 :: a3 :: a4 :: a5 :: a6 :: b :: t) (.int x :: st) h post := by
  subst hp
  exact fun p e s m args below meth c R H locs ls cells slots Q C X hP hS hl hc => lv_istore C.1 C.2.1 hd hl hn rfl (fun ls' hl' => k p e s m args below meth c R H locs ls' cells slots Q C X hP hS (asl_st (lv := (a0 :: a1 :: a2 :: a3 :: a4 :: a5 :: a6 :: b :: t)) (i := 7) hl' rfl (by simp only [List.length_cons]; omega) (fun j w hj hw => asl_cat (i := 7) (a := a6) rfl hcat (j := j) hj hw)) hc)
theorem g_astore7 {a0 a1 a2 a3 a4 a5 a6 b : Option Value} {t : List (Option Value)} {x : Nat} (pc' : Nat) (hp : pc + 2 = pc') (hd : decode cc pc = .ok (.astore 7, 2)) (hn : 7 < nL) (hcat : catOK a6 = true) (k : G V E d own cc nL rt pc' (a0 :: a1 :: a2 :: a3 :: a4 :: a5 :: a6 :: some (rf V x) :: t) (st) h post) : G V E d own cc nL rt pc (a0 :: a1 :: a2 :: a3 :: a4 :: a5 :: a6 :: b :: t) (rf V x :: st) h post := by
  subst hp
  exact fun p e s m args below meth c R H locs ls cells slots Q C X hP hS hl hc => lv_astore C.1 C.2.1 hd hl hn rfl (fun ls' hl' => k p e s m args below meth c R H locs ls' cells slots Q C X hP hS (asl_st (lv := (a0 :: a1 :: a2 :: a3 :: a4 :: a5 :: a6 :: b :: t)) (i := 7) hl' rfl (by simp only [List.length_cons]; omega) (fun j w hj hw => asl_cat (i := 7) (a := a6) rfl hcat (j := j) hj hw)) hc)
theorem g_iinc7 {a0 a1 a2 a3 a4 a5 a6 : Option Value} {t : List (Option Value)} {x v : Int32} {n : Int} (pc' : Nat) (hp : pc + 3 = pc') (hd : decode cc pc = .ok (.iinc 7 n, 3)) (hv : x + Int32.ofInt n = v) (hn : 7 < nL) (hcat : catOK a6 = true) (k : G V E d own cc nL rt pc' (a0 :: a1 :: a2 :: a3 :: a4 :: a5 :: a6 :: some (.int v) :: t) (st) h post) : G V E d own cc nL rt pc (a0 :: a1 :: a2 :: a3 :: a4 :: a5 :: a6 :: some (.int x) :: t) (st) h post := by
  subst hp
  intro p e s m args below meth c R H locs ls cells slots Q C X hP hS hl hc
  obtain ⟨q, hq⟩ := List.getElem?_of_mem ((asl_mem (a0 :: a1 :: a2 :: a3 :: a4 :: a5 :: a6 :: some (.int x) :: t) 0 7 (.int x)).mpr ⟨7, by omega, rfl⟩)
  exact lv_iinc C.1 C.2.1 hd hl hq hv hn rfl (fun ls' hl' => k p e s m args below meth c R H locs ls' cells slots Q C X hP hS (asl_st (lv := (a0 :: a1 :: a2 :: a3 :: a4 :: a5 :: a6 :: some (.int x) :: t)) (i := 7) hl' rfl (by simp only [List.length_cons]; omega) (fun j w hj hw => asl_cat (i := 7) (a := a6) rfl hcat (j := j) hj hw)) hc)
theorem gn_iinc7 {a0 a1 a2 a3 a4 a5 a6 : Option Value} {t : List (Option Value)} {x : Nat} {n : Int} (z : Nat) (pc' : Nat) (hp : pc + 3 = pc') (hd : decode cc pc = .ok (.iinc 7 n, 3)) (hz : Int32.ofInt n = nI z) (hn : 7 < nL) (hcat : catOK a6 = true) (k : G V E d own cc nL rt pc' (a0 :: a1 :: a2 :: a3 :: a4 :: a5 :: a6 :: some (.int (nI (x + z))) :: t) (st) h post) : G V E d own cc nL rt pc (a0 :: a1 :: a2 :: a3 :: a4 :: a5 :: a6 :: some (.int (nI x)) :: t) (st) h post := g_iinc7 pc' hp hd (by rw [hz, nI_add]) hn hcat k
theorem g_iload8 {a0 a1 a2 a3 a4 a5 a6 a7 : Option Value} {t : List (Option Value)} {x : Int32} (pc' : Nat) (hp : pc + 2 = pc') (hd : decode cc pc = .ok (.iload 8, 2)) (k : G V E d own cc nL rt pc' (a0 :: a1 :: a2 :: a3 :: a4 :: a5 :: a6 :: a7 :: some (.int x) :: t) (.int x :: st) h post) : G V E d own cc nL rt pc (a0 :: a1 :: a2 :: a3 :: a4 :: a5 :: a6 :: a7 :: some (.int x) :: t) (st) h post := by
  subst hp
  exact fun p e s m args below meth c R H locs ls cells slots Q C X hP hS hl hc => lv_iload C.1 C.2.1 hd (asl_at (i := 8) hl rfl) (k p e s m args below meth c R H locs ls cells slots Q C X hP hS hl hc)
theorem g_aload8 {a0 a1 a2 a3 a4 a5 a6 a7 : Option Value} {t : List (Option Value)} {x : Nat} (pc' : Nat) (hp : pc + 2 = pc') (hd : decode cc pc = .ok (.aload 8, 2)) (k : G V E d own cc nL rt pc' (a0 :: a1 :: a2 :: a3 :: a4 :: a5 :: a6 :: a7 :: some (rf V x) :: t) (rf V x :: st) h post) : G V E d own cc nL rt pc (a0 :: a1 :: a2 :: a3 :: a4 :: a5 :: a6 :: a7 :: some (rf V x) :: t) (st) h post := by
  subst hp
  exact fun p e s m args below meth c R H locs ls cells slots Q C X hP hS hl hc => lv_aload C.1 C.2.1 hd (asl_at (i := 8) hl rfl) (k p e s m args below meth c R H locs ls cells slots Q C X hP hS hl hc)
theorem g_lload8 {a0 a1 a2 a3 a4 a5 a6 a7 : Option Value} {t : List (Option Value)} {x : Int64} (pc' : Nat) (hp : pc + 2 = pc') (hd : decode cc pc = .ok (.lload 8, 2)) (k : G V E d own cc nL rt pc' (a0 :: a1 :: a2 :: a3 :: a4 :: a5 :: a6 :: a7 :: some (.long x) :: t) (.long x :: st) h post) : G V E d own cc nL rt pc (a0 :: a1 :: a2 :: a3 :: a4 :: a5 :: a6 :: a7 :: some (.long x) :: t) (st) h post := by
  subst hp
  exact fun p e s m args below meth c R H locs ls cells slots Q C X hP hS hl hc => lv_lload C.1 C.2.1 hd (asl_at (i := 8) hl rfl) (k p e s m args below meth c R H locs ls cells slots Q C X hP hS hl hc)
theorem g_istore8 {a0 a1 a2 a3 a4 a5 a6 a7 b : Option Value} {t : List (Option Value)} {x : Int32} (pc' : Nat) (hp : pc + 2 = pc') (hd : decode cc pc = .ok (.istore 8, 2)) (hn : 8 < nL) (hcat : catOK a7 = true) (k : G V E d own cc nL rt pc' (a0 :: a1 :: a2 :: a3 :: a4 :: a5 :: a6 :: a7 :: some (.int x) :: t) (st) h post) : G V E d own cc nL rt pc (a0 :: a1 :: a2 :: a3 :: a4 :: a5 :: a6 :: a7 :: b :: t) (.int x :: st) h post := by
  subst hp
  exact fun p e s m args below meth c R H locs ls cells slots Q C X hP hS hl hc => lv_istore C.1 C.2.1 hd hl hn rfl (fun ls' hl' => k p e s m args below meth c R H locs ls' cells slots Q C X hP hS (asl_st (lv := (a0 :: a1 :: a2 :: a3 :: a4 :: a5 :: a6 :: a7 :: b :: t)) (i := 8) hl' rfl (by simp only [List.length_cons]; omega) (fun j w hj hw => asl_cat (i := 8) (a := a7) rfl hcat (j := j) hj hw)) hc)
theorem g_astore8 {a0 a1 a2 a3 a4 a5 a6 a7 b : Option Value} {t : List (Option Value)} {x : Nat} (pc' : Nat) (hp : pc + 2 = pc') (hd : decode cc pc = .ok (.astore 8, 2)) (hn : 8 < nL) (hcat : catOK a7 = true) (k : G V E d own cc nL rt pc' (a0 :: a1 :: a2 :: a3 :: a4 :: a5 :: a6 :: a7 :: some (rf V x) :: t) (st) h post) : G V E d own cc nL rt pc (a0 :: a1 :: a2 :: a3 :: a4 :: a5 :: a6 :: a7 :: b :: t) (rf V x :: st) h post := by
  subst hp
  exact fun p e s m args below meth c R H locs ls cells slots Q C X hP hS hl hc => lv_astore C.1 C.2.1 hd hl hn rfl (fun ls' hl' => k p e s m args below meth c R H locs ls' cells slots Q C X hP hS (asl_st (lv := (a0 :: a1 :: a2 :: a3 :: a4 :: a5 :: a6 :: a7 :: b :: t)) (i := 8) hl' rfl (by simp only [List.length_cons]; omega) (fun j w hj hw => asl_cat (i := 8) (a := a7) rfl hcat (j := j) hj hw)) hc)
theorem g_iinc8 {a0 a1 a2 a3 a4 a5 a6 a7 : Option Value} {t : List (Option Value)} {x v : Int32} {n : Int} (pc' : Nat) (hp : pc + 3 = pc') (hd : decode cc pc = .ok (.iinc 8 n, 3)) (hv : x + Int32.ofInt n = v) (hn : 8 < nL) (hcat : catOK a7 = true) (k : G V E d own cc nL rt pc' (a0 :: a1 :: a2 :: a3 :: a4 :: a5 :: a6 :: a7 :: some (.int v) :: t) (st) h post) : G V E d own cc nL rt pc (a0 :: a1 :: a2 :: a3 :: a4 :: a5 :: a6 :: a7 :: some (.int x) :: t) (st) h post := by
  subst hp
  intro p e s m args below meth c R H locs ls cells slots Q C X hP hS hl hc
  obtain ⟨q, hq⟩ := List.getElem?_of_mem ((asl_mem (a0 :: a1 :: a2 :: a3 :: a4 :: a5 :: a6 :: a7 :: some (.int x) :: t) 0 8 (.int x)).mpr ⟨8, by omega, rfl⟩)
  exact lv_iinc C.1 C.2.1 hd hl hq hv hn rfl (fun ls' hl' => k p e s m args below meth c R H locs ls' cells slots Q C X hP hS (asl_st (lv := (a0 :: a1 :: a2 :: a3 :: a4 :: a5 :: a6 :: a7 :: some (.int x) :: t)) (i := 8) hl' rfl (by simp only [List.length_cons]; omega) (fun j w hj hw => asl_cat (i := 8) (a := a7) rfl hcat (j := j) hj hw)) hc)
theorem gn_iinc8 {a0 a1 a2 a3 a4 a5 a6 a7 : Option Value} {t : List (Option Value)} {x : Nat} {n : Int} (z : Nat) (pc' : Nat) (hp : pc + 3 = pc') (hd : decode cc pc = .ok (.iinc 8 n, 3)) (hz : Int32.ofInt n = nI z) (hn : 8 < nL) (hcat : catOK a7 = true) (k : G V E d own cc nL rt pc' (a0 :: a1 :: a2 :: a3 :: a4 :: a5 :: a6 :: a7 :: some (.int (nI (x + z))) :: t) (st) h post) : G V E d own cc nL rt pc (a0 :: a1 :: a2 :: a3 :: a4 :: a5 :: a6 :: a7 :: some (.int (nI x)) :: t) (st) h post := g_iinc8 pc' hp hd (by rw [hz, nI_add]) hn hcat k
theorem g_iload9 {a0 a1 a2 a3 a4 a5 a6 a7 a8 : Option Value} {t : List (Option Value)} {x : Int32} (pc' : Nat) (hp : pc + 2 = pc') (hd : decode cc pc = .ok (.iload 9, 2)) (k : G V E d own cc nL rt pc' (a0 :: a1 :: a2 :: a3 :: a4 :: a5 :: a6 :: a7 :: a8 :: some (.int x) :: t) (.int x :: st) h post) : G V E d own cc nL rt pc (a0 :: a1 :: a2 :: a3 :: a4 :: a5 :: a6 :: a7 :: a8 :: some (.int x) :: t) (st) h post := by
  subst hp
  exact fun p e s m args below meth c R H locs ls cells slots Q C X hP hS hl hc => lv_iload C.1 C.2.1 hd (asl_at (i := 9) hl rfl) (k p e s m args below meth c R H locs ls cells slots Q C X hP hS hl hc)
theorem g_aload9 {a0 a1 a2 a3 a4 a5 a6 a7 a8 : Option Value} {t : List (Option Value)} {x : Nat} (pc' : Nat) (hp : pc + 2 = pc') (hd : decode cc pc = .ok (.aload 9, 2)) (k : G V E d own cc nL rt pc' (a0 :: a1 :: a2 :: a3 :: a4 :: a5 :: a6 :: a7 :: a8 :: some (rf V x) :: t) (rf V x :: st) h post) : G V E d own cc nL rt pc (a0 :: a1 :: a2 :: a3 :: a4 :: a5 :: a6 :: a7 :: a8 :: some (rf V x) :: t) (st) h post := by
  subst hp
  exact fun p e s m args below meth c R H locs ls cells slots Q C X hP hS hl hc => lv_aload C.1 C.2.1 hd (asl_at (i := 9) hl rfl) (k p e s m args below meth c R H locs ls cells slots Q C X hP hS hl hc)
theorem g_lload9 {a0 a1 a2 a3 a4 a5 a6 a7 a8 : Option Value} {t : List (Option Value)} {x : Int64} (pc' : Nat) (hp : pc + 2 = pc') (hd : decode cc pc = .ok (.lload 9, 2)) (k : G V E d own cc nL rt pc' (a0 :: a1 :: a2 :: a3 :: a4 :: a5 :: a6 :: a7 :: a8 :: some (.long x) :: t) (.long x :: st) h post) : G V E d own cc nL rt pc (a0 :: a1 :: a2 :: a3 :: a4 :: a5 :: a6 :: a7 :: a8 :: some (.long x) :: t) (st) h post := by
  subst hp
  exact fun p e s m args below meth c R H locs ls cells slots Q C X hP hS hl hc => lv_lload C.1 C.2.1 hd (asl_at (i := 9) hl rfl) (k p e s m args below meth c R H locs ls cells slots Q C X hP hS hl hc)
theorem g_istore9 {a0 a1 a2 a3 a4 a5 a6 a7 a8 b : Option Value} {t : List (Option Value)} {x : Int32} (pc' : Nat) (hp : pc + 2 = pc') (hd : decode cc pc = .ok (.istore 9, 2)) (hn : 9 < nL) (hcat : catOK a8 = true) (k : G V E d own cc nL rt pc' (a0 :: a1 :: a2 :: a3 :: a4 :: a5 :: a6 :: a7 :: a8 :: some (.int x) :: t) (st) h post) : G V E d own cc nL rt pc (a0 :: a1 :: a2 :: a3 :: a4 :: a5 :: a6 :: a7 :: a8 :: b :: t) (.int x :: st) h post := by
  subst hp
  exact fun p e s m args below meth c R H locs ls cells slots Q C X hP hS hl hc => lv_istore C.1 C.2.1 hd hl hn rfl (fun ls' hl' => k p e s m args below meth c R H locs ls' cells slots Q C X hP hS (asl_st (lv := (a0 :: a1 :: a2 :: a3 :: a4 :: a5 :: a6 :: a7 :: a8 :: b :: t)) (i := 9) hl' rfl (by simp only [List.length_cons]; omega) (fun j w hj hw => asl_cat (i := 9) (a := a8) rfl hcat (j := j) hj hw)) hc)
theorem g_astore9 {a0 a1 a2 a3 a4 a5 a6 a7 a8 b : Option Value} {t : List (Option Value)} {x : Nat} (pc' : Nat) (hp : pc + 2 = pc') (hd : decode cc pc = .ok (.astore 9, 2)) (hn : 9 < nL) (hcat : catOK a8 = true) (k : G V E d own cc nL rt pc' (a0 :: a1 :: a2 :: a3 :: a4 :: a5 :: a6 :: a7 :: a8 :: some (rf V x) :: t) (st) h post) : G V E d own cc nL rt pc (a0 :: a1 :: a2 :: a3 :: a4 :: a5 :: a6 :: a7 :: a8 :: b :: t) (rf V x :: st) h post := by
  subst hp
  exact fun p e s m args below meth c R H locs ls cells slots Q C X hP hS hl hc => lv_astore C.1 C.2.1 hd hl hn rfl (fun ls' hl' => k p e s m args below meth c R H locs ls' cells slots Q C X hP hS (asl_st (lv := (a0 :: a1 :: a2 :: a3 :: a4 :: a5 :: a6 :: a7 :: a8 :: b :: t)) (i := 9) hl' rfl (by simp only [List.length_cons]; omega) (fun j w hj hw => asl_cat (i := 9) (a := a8) rfl hcat (j := j) hj hw)) hc)
theorem g_iinc9 {a0 a1 a2 a3 a4 a5 a6 a7 a8 : Option Value} {t : List (Option Value)} {x v : Int32} {n : Int} (pc' : Nat) (hp : pc + 3 = pc') (hd : decode cc pc = .ok (.iinc 9 n, 3)) (hv : x + Int32.ofInt n = v) (hn : 9 < nL) (hcat : catOK a8 = true) (k : G V E d own cc nL rt pc' (a0 :: a1 :: a2 :: a3 :: a4 :: a5 :: a6 :: a7 :: a8 :: some (.int v) :: t) (st) h post) : G V E d own cc nL rt pc (a0 :: a1 :: a2 :: a3 :: a4 :: a5 :: a6 :: a7 :: a8 :: some (.int x) :: t) (st) h post := by
  subst hp
  intro p e s m args below meth c R H locs ls cells slots Q C X hP hS hl hc
  obtain ⟨q, hq⟩ := List.getElem?_of_mem ((asl_mem (a0 :: a1 :: a2 :: a3 :: a4 :: a5 :: a6 :: a7 :: a8 :: some (.int x) :: t) 0 9 (.int x)).mpr ⟨9, by omega, rfl⟩)
  exact lv_iinc C.1 C.2.1 hd hl hq hv hn rfl (fun ls' hl' => k p e s m args below meth c R H locs ls' cells slots Q C X hP hS (asl_st (lv := (a0 :: a1 :: a2 :: a3 :: a4 :: a5 :: a6 :: a7 :: a8 :: some (.int x) :: t)) (i := 9) hl' rfl (by simp only [List.length_cons]; omega) (fun j w hj hw => asl_cat (i := 9) (a := a8) rfl hcat (j := j) hj hw)) hc)
theorem gn_iinc9 {a0 a1 a2 a3 a4 a5 a6 a7 a8 : Option Value} {t : List (Option Value)} {x : Nat} {n : Int} (z : Nat) (pc' : Nat) (hp : pc + 3 = pc') (hd : decode cc pc = .ok (.iinc 9 n, 3)) (hz : Int32.ofInt n = nI z) (hn : 9 < nL) (hcat : catOK a8 = true) (k : G V E d own cc nL rt pc' (a0 :: a1 :: a2 :: a3 :: a4 :: a5 :: a6 :: a7 :: a8 :: some (.int (nI (x + z))) :: t) (st) h post) : G V E d own cc nL rt pc (a0 :: a1 :: a2 :: a3 :: a4 :: a5 :: a6 :: a7 :: a8 :: some (.int (nI x)) :: t) (st) h post := g_iinc9 pc' hp hd (by rw [hz, nI_add]) hn hcat k
theorem g_iload10 {a0 a1 a2 a3 a4 a5 a6 a7 a8 a9 : Option Value} {t : List (Option Value)} {x : Int32} (pc' : Nat) (hp : pc + 2 = pc') (hd : decode cc pc = .ok (.iload 10, 2)) (k : G V E d own cc nL rt pc' (a0 :: a1 :: a2 :: a3 :: a4 :: a5 :: a6 :: a7 :: a8 :: a9 :: some (.int x) :: t) (.int x :: st) h post) : G V E d own cc nL rt pc (a0 :: a1 :: a2 :: a3 :: a4 :: a5 :: a6 :: a7 :: a8 :: a9 :: some (.int x) :: t) (st) h post := by
  subst hp
  exact fun p e s m args below meth c R H locs ls cells slots Q C X hP hS hl hc => lv_iload C.1 C.2.1 hd (asl_at (i := 10) hl rfl) (k p e s m args below meth c R H locs ls cells slots Q C X hP hS hl hc)
theorem g_aload10 {a0 a1 a2 a3 a4 a5 a6 a7 a8 a9 : Option Value} {t : List (Option Value)} {x : Nat} (pc' : Nat) (hp : pc + 2 = pc') (hd : decode cc pc = .ok (.aload 10, 2)) (k : G V E d own cc nL rt pc' (a0 :: a1 :: a2 :: a3 :: a4 :: a5 :: a6 :: a7 :: a8 :: a9 :: some (rf V x) :: t) (rf V x :: st) h post) : G V E d own cc nL rt pc (a0 :: a1 :: a2 :: a3 :: a4 :: a5 :: a6 :: a7 :: a8 :: a9 :: some (rf V x) :: t) (st) h post := by
  subst hp
  exact fun p e s m args below meth c R H locs ls cells slots Q C X hP hS hl hc => lv_aload C.1 C.2.1 hd (asl_at (i := 10) hl rfl) (k p e s m args below meth c R H locs ls cells slots Q C X hP hS hl hc)
theorem g_lload10 {a0 a1 a2 a3 a4 a5 a6 a7 a8 a9 : Option Value} {t : List (Option Value)} {x : Int64} (pc' : Nat) (hp : pc + 2 = pc') (hd : decode cc pc = .ok (.lload 10, 2)) (k : G V E d own cc nL rt pc' (a0 :: a1 :: a2 :: a3 :: a4 :: a5 :: a6 :: a7 :: a8 :: a9 :: some (.long x) :: t) (.long x :: st) h post) : G V E d own cc nL rt pc (a0 :: a1 :: a2 :: a3 :: a4 :: a5 :: a6 :: a7 :: a8 :: a9 :: some (.long x) :: t) (st) h post := by
  subst hp
  exact fun p e s m args below meth c R H locs ls cells slots Q C X hP hS hl hc => lv_lload C.1 C.2.1 hd (asl_at (i := 10) hl rfl) (k p e s m args below meth c R H locs ls cells slots Q C X hP hS hl hc)
theorem g_istore10 {a0 a1 a2 a3 a4 a5 a6 a7 a8 a9 b : Option Value} {t : List (Option Value)} {x : Int32} (pc' : Nat) (hp : pc + 2 = pc') (hd : decode cc pc = .ok (.istore 10, 2)) (hn : 10 < nL) (hcat : catOK a9 = true) (k : G V E d own cc nL rt pc' (a0 :: a1 :: a2 :: a3 :: a4 :: a5 :: a6 :: a7 :: a8 :: a9 :: some (.int x) :: t) (st) h post) : G V E d own cc nL rt pc (a0 :: a1 :: a2 :: a3 :: a4 :: a5 :: a6 :: a7 :: a8 :: a9 :: b :: t) (.int x :: st) h post := by
  subst hp
  exact fun p e s m args below meth c R H locs ls cells slots Q C X hP hS hl hc => lv_istore C.1 C.2.1 hd hl hn rfl (fun ls' hl' => k p e s m args below meth c R H locs ls' cells slots Q C X hP hS (asl_st (lv := (a0 :: a1 :: a2 :: a3 :: a4 :: a5 :: a6 :: a7 :: a8 :: a9 :: b :: t)) (i := 10) hl' rfl (by simp only [List.length_cons]; omega) (fun j w hj hw => asl_cat (i := 10) (a := a9) rfl hcat (j := j) hj hw)) hc)
theorem g_astore10 {a0 a1 a2 a3 a4 a5 a6 a7 a8 a9 b : Option Value} {t : List (Option Value)} {x : Nat} (pc' : Nat) (hp : pc + 2 = pc') (hd : decode cc pc = .ok (.astore 10, 2)) (hn : 10 < nL) (hcat : catOK a9 = true) (k : G V E d own cc nL rt pc' (a0 :: a1 :: a2 :: a3 :: a4 :: a5 :: a6 :: a7 :: a8 :: a9 :: some (rf V x) :: t) (st) h post) : G V E d own cc nL rt pc (a0 :: a1 :: a2 :: a3 :: a4 :: a5 :: a6 :: a7 :: a8 :: a9 :: b :: t) (rf V x :: st) h post := by
  subst hp
  exact fun p e s m args below meth c R H locs ls cells slots Q C X hP hS hl hc => lv_astore C.1 C.2.1 hd hl hn rfl (fun ls' hl' => k p e s m args below meth c R H locs ls' cells slots Q C X hP hS (asl_st (lv := (a0 :: a1 :: a2 :: a3 :: a4 :: a5 :: a6 :: a7 :: a8 :: a9 :: b :: t)) (i := 10) hl' rfl (by simp only [List.length_cons]; omega) (fun j w hj hw => asl_cat (i := 10) (a := a9) rfl hcat (j := j) hj hw)) hc)
theorem g_iinc10 {a0 a1 a2 a3 a4 a5 a6 a7 a8 a9 : Option Value} {t : List (Option Value)} {x v : Int32} {n : Int} (pc' : Nat) (hp : pc + 3 = pc') (hd : decode cc pc = .ok (.iinc 10 n, 3)) (hv : x + Int32.ofInt n = v) (hn : 10 < nL) (hcat : catOK a9 = true) (k : G V E d own cc nL rt pc' (a0 :: a1 :: a2 :: a3 :: a4 :: a5 :: a6 :: a7 :: a8 :: a9 :: some (.int v) :: t) (st) h post) : G V E d own cc nL rt pc (a0 :: a1 :: a2 :: a3 :: a4 :: a5 :: a6 :: a7 :: a8 :: a9 :: some (.int x) :: t) (st) h post := by
  subst hp
  intro p e s m args below meth c R H locs ls cells slots Q C X hP hS hl hc
  obtain ⟨q, hq⟩ := List.getElem?_of_mem ((asl_mem (a0 :: a1 :: a2 :: a3 :: a4 :: a5 :: a6 :: a7 :: a8 :: a9 :: some (.int x) :: t) 0 10 (.int x)).mpr ⟨10, by omega, rfl⟩)
  exact lv_iinc C.1 C.2.1 hd hl hq hv hn rfl (fun ls' hl' => k p e s m args below meth c R H locs ls' cells slots Q C X hP hS (asl_st (lv := (a0 :: a1 :: a2 :: a3 :: a4 :: a5 :: a6 :: a7 :: a8 :: a9 :: some (.int x) :: t)) (i := 10) hl' rfl (by simp only [List.length_cons]; omega) (fun j w hj hw => asl_cat (i := 10) (a := a9) rfl hcat (j := j) hj hw)) hc)
theorem gn_iinc10 {a0 a1 a2 a3 a4 a5 a6 a7 a8 a9 : Option Value} {t : List (Option Value)} {x : Nat} {n : Int} (z : Nat) (pc' : Nat) (hp : pc + 3 = pc') (hd : decode cc pc = .ok (.iinc 10 n, 3)) (hz : Int32.ofInt n = nI z) (hn : 10 < nL) (hcat : catOK a9 = true) (k : G V E d own cc nL rt pc' (a0 :: a1 :: a2 :: a3 :: a4 :: a5 :: a6 :: a7 :: a8 :: a9 :: some (.int (nI (x + z))) :: t) (st) h post) : G V E d own cc nL rt pc (a0 :: a1 :: a2 :: a3 :: a4 :: a5 :: a6 :: a7 :: a8 :: a9 :: some (.int (nI x)) :: t) (st) h post := g_iinc10 pc' hp hd (by rw [hz, nI_add]) hn hcat k
theorem g_iload11 {a0 a1 a2 a3 a4 a5 a6 a7 a8 a9 a10 : Option Value} {t : List (Option Value)} {x : Int32} (pc' : Nat) (hp : pc + 2 = pc') (hd : decode cc pc = .ok (.iload 11, 2)) (k : G V E d own cc nL rt pc' (a0 :: a1 :: a2 :: a3 :: a4 :: a5 :: a6 :: a7 :: a8 :: a9 :: a10 :: some (.int x) :: t) (.int x :: st) h post) : G V E d own cc nL rt pc (a0 :: a1 :: a2 :: a3 :: a4 :: a5 :: a6 :: a7 :: a8 :: a9 :: a10 :: some (.int x) :: t) (st) h post := by
  subst hp
  exact fun p e s m args below meth c R H locs ls cells slots Q C X hP hS hl hc => lv_iload C.1 C.2.1 hd (asl_at (i := 11) hl rfl) (k p e s m args below meth c R H locs ls cells slots Q C X hP hS hl hc)
theorem g_aload11 {a0 a1 a2 a3 a4 a5 a6 a7 a8 a9 a10 : Option Value} {t : List (Option Value)} {x : Nat} (pc' : Nat) (hp : pc + 2 = pc') (hd : decode cc pc = .ok (.aload 11, 2)) (k : G V E d own cc nL rt pc' (a0 :: a1 :: a2 :: a3 :: a4 :: a5 :: a6 :: a7 :: a8 :: a9 :: a10 :: some (rf V x) :: t) (rf V x :: st) h post) : G V E d own cc nL rt pc (a0 :: a1 :: a2 :: a3 :: a4 :: a5 :: a6 :: a7 :: a8 :: a9 :: a10 :: some (rf V x) :: t) (st) h post := by
  subst hp
  exact fun p e s m args below meth c R H locs ls cells slots Q C X hP hS hl hc => lv_aload C.1 C.2.1 hd (asl_at (i := 11) hl rfl) (k p e s m args below meth c R H locs ls cells slots Q C X hP hS hl hc)
theorem g_lload11 {a0 a1 a2 a3 a4 a5 a6 a7 a8 a9 a10 : Option Value} {t : List (Option Value)} {x : Int64} (pc' : Nat) (hp : pc + 2 = pc') (hd : decode cc pc = .ok (.lload 11, 2)) (k : G V E d own cc nL rt pc' (a0 :: a1 :: a2 :: a3 :: a4 :: a5 :: a6 :: a7 :: a8 :: a9 :: a10 :: some (.long x) :: t) (.long x :: st) h post) : G V E d own cc nL rt pc (a0 :: a1 :: a2 :: a3 :: a4 :: a5 :: a6 :: a7 :: a8 :: a9 :: a10 :: some (.long x) :: t) (st) h post := by
  subst hp
  exact fun p e s m args below meth c R H locs ls cells slots Q C X hP hS hl hc => lv_lload C.1 C.2.1 hd (asl_at (i := 11) hl rfl) (k p e s m args below meth c R H locs ls cells slots Q C X hP hS hl hc)
theorem g_istore11 {a0 a1 a2 a3 a4 a5 a6 a7 a8 a9 a10 b : Option Value} {t : List (Option Value)} {x : Int32} (pc' : Nat) (hp : pc + 2 = pc') (hd : decode cc pc = .ok (.istore 11, 2)) (hn : 11 < nL) (hcat : catOK a10 = true) (k : G V E d own cc nL rt pc' (a0 :: a1 :: a2 :: a3 :: a4 :: a5 :: a6 :: a7 :: a8 :: a9 :: a10 :: some (.int x) :: t) (st) h post) : G V E d own cc nL rt pc (a0 :: a1 :: a2 :: a3 :: a4 :: a5 :: a6 :: a7 :: a8 :: a9 :: a10 :: b :: t) (.int x :: st) h post := by
  subst hp
  exact fun p e s m args below meth c R H locs ls cells slots Q C X hP hS hl hc => lv_istore C.1 C.2.1 hd hl hn rfl (fun ls' hl' => k p e s m args below meth c R H locs ls' cells slots Q C X hP hS (asl_st (lv := (a0 :: a1 :: a2 :: a3 :: a4 :: a5 :: a6 :: a7 :: a8 :: a9 :: a10 :: b :: t)) (i := 11) hl' rfl (by simp only [List.length_cons]; omega) (fun j w hj hw => asl_cat (i := 11) (a := a10) rfl hcat (j := j) hj hw)) hc)
theorem g_astore11 {a0 a1 a2 a3 a4 a5 a6 a7 a8 a9 a10 b : Option Value} {t : List (Option Value)} {x : Nat} (pc' : Nat) (hp : pc + 2 = pc') (hd : decode cc pc = .ok (.astore 11, 2)) (hn : 11 < nL) (hcat : catOK a10 = true) (k : G V E d own cc nL rt pc' (a0 :: a1 :: a2 :: a3 :: a4 :: a5 :: a6 :: a7 :: a8 :: a9 :: a10 :: some (rf V x) :: t) (st) h post) : G V E d own cc nL rt pc (a0 :: a1 :: a2 :: a3 :: a4 :: a5 :: a6 :: a7 :: a8 :: a9 :: a10 :: b :: t) (rf V x :: st) h post := by
  subst hp
  exact fun p e s m args below meth c R H locs ls cells slots Q C X hP hS hl hc => lv_astore C.1 C.2.1 hd hl hn rfl (fun ls' hl' => k p e s m args below meth c R H locs ls' cells slots Q C X hP hS (asl_st (lv := (a0 :: a1 :: a2 :: a3 :: a4 :: a5 :: a6 :: a7 :: a8 :: a9 :: a10 :: b :: t)) (i := 11) hl' rfl (by simp only [List.length_cons]; omega) (fun j w hj hw => asl_cat (i := 11) (a := a10) rfl hcat (j := j) hj hw)) hc)
theorem g_iinc11 {a0 a1 a2 a3 a4 a5 a6 a7 a8 a9 a10 : Option Value} {t : List (Option Value)} {x v : Int32} {n : Int} (pc' : Nat) (hp : pc + 3 = pc') (hd : decode cc pc = .ok (.iinc 11 n, 3)) (hv : x + Int32.ofInt n = v) (hn : 11 < nL) (hcat : catOK a10 = true) (k : G V E d own cc nL rt pc' (a0 :: a1 :: a2 :: a3 :: a4 :: a5 :: a6 :: a7 :: a8 :: a9 :: a10 :: some (.int v) :: t) (st) h post) : G V E d own cc nL rt pc (a0 :: a1 :: a2 :: a3 :: a4 :: a5 :: a6 :: a7 :: a8 :: a9 :: a10 :: some (.int x) :: t) (st) h post := by
  subst hp
  intro p e s m args below meth c R H locs ls cells slots Q C X hP hS hl hc
  obtain ⟨q, hq⟩ := List.getElem?_of_mem ((asl_mem (a0 :: a1 :: a2 :: a3 :: a4 :: a5 :: a6 :: a7 :: a8 :: a9 :: a10 :: some (.int x) :: t) 0 11 (.int x)).mpr ⟨11, by omega, rfl⟩)
  exact lv_iinc C.1 C.2.1 hd hl hq hv hn rfl (fun ls' hl' => k p e s m args below meth c R H locs ls' cells slots Q C X hP hS (asl_st (lv := (a0 :: a1 :: a2 :: a3 :: a4 :: a5 :: a6 :: a7 :: a8 :: a9 :: a10 :: some (.int x) :: t)) (i := 11) hl' rfl (by simp only [List.length_cons]; omega) (fun j w hj hw => asl_cat (i := 11) (a := a10) rfl hcat (j := j) hj hw)) hc)
theorem gn_iinc11 {a0 a1 a2 a3 a4 a5 a6 a7 a8 a9 a10 : Option Value} {t : List (Option Value)} {x : Nat} {n : Int} (z : Nat) (pc' : Nat) (hp : pc + 3 = pc') (hd : decode cc pc = .ok (.iinc 11 n, 3)) (hz : Int32.ofInt n = nI z) (hn : 11 < nL) (hcat : catOK a10 = true) (k : G V E d own cc nL rt pc' (a0 :: a1 :: a2 :: a3 :: a4 :: a5 :: a6 :: a7 :: a8 :: a9 :: a10 :: some (.int (nI (x + z))) :: t) (st) h post) : G V E d own cc nL rt pc (a0 :: a1 :: a2 :: a3 :: a4 :: a5 :: a6 :: a7 :: a8 :: a9 :: a10 :: some (.int (nI x)) :: t) (st) h post := g_iinc11 pc' hp hd (by rw [hz, nI_add]) hn hcat k
theorem g_iload12 {a0 a1 a2 a3 a4 a5 a6 a7 a8 a9 a10 a11 : Option Value} {t : List (Option Value)} {x : Int32} (pc' : Nat) (hp : pc + 2 = pc') (hd : decode cc pc = .ok (.iload 12, 2)) (k : G V E d own cc nL rt pc' (a0 :: a1 :: a2 :: a3 :: a4 :: a5 :: a6 :: a7 :: a8 :: a9 :: a10 :: a11 :: some (.int x) :: t) (.int x :: st) h post) : G V E d own cc nL rt pc (a0 :: a1 :: a2 :: a3 :: a4 :: a5 :: a6 :: a7 :: a8 :: a9 :: a10 :: a11 :: some (.int x) :: t) (st) h post := by
  subst hp
  exact fun p e s m args below meth c R H locs ls cells slots Q C X hP hS hl hc => lv_iload C.1 C.2.1 hd (asl_at (i := 12) hl rfl) (k p e s m args below meth c R H locs ls cells slots Q C X hP hS hl hc)
theorem g_aload12 {a0 a1 a2 a3 a4 a5 a6 a7 a8 a9 a10 a11 : Option Value} {t : List (Option Value)} {x : Nat} (pc' : Nat) (hp : pc + 2 = pc') (hd : decode cc pc = .ok (.aload 12, 2)) (k : G V E d own cc nL rt pc' (a0 :: a1 :: a2 :: a3 :: a4 :: a5 :: a6 :: a7 :: a8 :: a9 :: a10 :: a11 :: some (rf V x) :: t) (rf V x :: st) h post) : G V E d own cc nL rt pc (a0 :: a1 :: a2 :: a3 :: a4 :: a5 :: a6 :: a7 :: a8 :: a9 :: a10 :: a11 :: some (rf V x) :: t) (st) h post := by
  subst hp
  exact fun p e s m args below meth c R H locs ls cells slots Q C X hP hS hl hc => lv_aload C.1 C.2.1 hd (asl_at (i := 12) hl rfl) (k p e s m args below meth c R H locs ls cells slots Q C X hP hS hl hc)
theorem g_lload12 {a0 a1 a2 a3 a4 a5 a6 a7 a8 a9 a10 a11 : Option Value} {t : List (Option Value)} {x : Int64} (pc' : Nat) (hp : pc + 2 = pc') (hd : decode cc pc = .ok (.lload 12, 2)) (k : G V E d own cc nL rt pc' (a0 :: a1 :: a2 :: a3 :: a4 :: a5 :: a6 :: a7 :: a8 :: a9 :: a10 :: a11 :: some (.long x) :: t) (.long x :: st) h post) : G V E d own cc nL rt pc (a0 :: a1 :: a2 :: a3 :: a4 :: a5 :: a6 :: a7 :: a8 :: a9 :: a10 :: a11 :: some (.long x) :: t) (st) h post := by
  subst hp
  exact fun p e s m args below meth c R H locs ls cells slots Q C X hP hS hl hc => lv_lload C.1 C.2.1 hd (asl_at (i := 12) hl rfl) (k p e s m args below meth c R H locs ls cells slots Q C X hP hS hl hc)
theorem g_istore12 {a0 a1 a2 a3 a4 a5 a6 a7 a8 a9 a10 a11 b : Option Value} {t : List (Option Value)} {x : Int32} (pc' : Nat) (hp : pc + 2 = pc') (hd : decode cc pc = .ok (.istore 12, 2)) (hn : 12 < nL) (hcat : catOK a11 = true) (k : G V E d own cc nL rt pc' (a0 :: a1 :: a2 :: a3 :: a4 :: a5 :: a6 :: a7 :: a8 :: a9 :: a10 :: a11 :: some (.int x) :: t) (st) h post) : G V E d own cc nL rt pc (a0 :: a1 :: a2 :: a3 :: a4 :: a5 :: a6 :: a7 :: a8 :: a9 :: a10 :: a11 :: b :: t) (.int x :: st) h post := by
  subst hp
  exact fun p e s m args below meth c R H locs ls cells slots Q C X hP hS hl hc => lv_istore C.1 C.2.1 hd hl hn rfl (fun ls' hl' => k p e s m args below meth c R H locs ls' cells slots Q C X hP hS (asl_st (lv := (a0 :: a1 :: a2 :: a3 :: a4 :: a5 :: a6 :: a7 :: a8 :: a9 :: a10 :: a11 :: b :: t)) (i := 12) hl' rfl (by simp only [List.length_cons]; omega) (fun j w hj hw => asl_cat (i := 12) (a := a11) rfl hcat (j := j) hj hw)) hc)
theorem g_astore12 {a0 a1 a2 a3 a4 a5 a6 a7 a8 a9 a10 a11 b : Option Value} {t : List (Option Value)} {x : Nat} (pc' : Nat) (hp : pc + 2 = pc') (hd : decode cc pc = .ok (.astore 12, 2)) (hn : 12 < nL) (hcat : catOK a11 = true) (k : G V E d own cc nL rt pc' (a0 :: a1 :: a2 :: a3 :: a4 :: a5 :: a6 :: a7 :: a8 :: a9 :: a10 :: a11 :: some (rf V x) :: t) (st) h post) : G V E d own cc nL rt pc (a0 :: a1 :: a2 :: a3 :: a4 :: a5 :: a6 :: a7 :: a8 :: a9 :: a10 :: a11 :: b :: t) (rf V x :: st) h post := by
  subst hp
  exact fun p e s m args below meth c R H locs ls cells slots Q C X hP hS hl hc => lv_astore C.1 C.2.1 hd hl hn rfl (fun ls' hl' => k p e s m args below meth c R H locs ls' cells slots Q C X hP hS (asl_st (lv := (a0 :: a1 :: a2 :: a3 :: a4 :: a5 :: a6 :: a7 :: a8 :: a9 :: a10 :: a11 :: b :: t)) (i := 12) hl' rfl (by simp only [List.length_cons]; omega) (fun j w hj hw => asl_cat (i := 12) (a := a11) rfl hcat (j := j) hj hw)) hc)
theorem g_iinc12 {a0 a1 a2 a3 a4 a5 a6 a7 a8 a9 a10 a11 : Option Value} {t : List (Option Value)} {x v : Int32} {n : Int} (pc' : Nat) (hp : pc + 3 = pc') (hd : decode cc pc = .ok (.iinc 12 n, 3)) (hv : x + Int32.ofInt n = v) (hn : 12 < nL) (hcat : catOK a11 = true) (k : G V E d own cc nL rt pc' (a0 :: a1 :: a2 :: a3 :: a4 :: a5 :: a6 :: a7 :: a8 :: a9 :: a10 :: a11 :: some (.int v) :: t) (st) h post) : G V E d own cc nL rt pc (a0 :: a1 :: a2 :: a3 :: a4 :: a5 :: a6 :: a7 :: a8 :: a9 :: a10 :: a11 :: some (.int x) :: t) (st) h post := by
  subst hp
  intro p e s m args below meth c R H locs ls cells slots Q C X hP hS hl hc
  obtain ⟨q, hq⟩ := List.getElem?_of_mem ((asl_mem (a0 :: a1 :: a2 :: a3 :: a4 :: a5 :: a6 :: a7 :: a8 :: a9 :: a10 :: a11 :: some (.int x) :: t) 0 12 (.int x)).mpr ⟨12, by omega, rfl⟩)
  exact lv_iinc C.1 C.2.1 hd hl hq hv hn rfl (fun ls' hl' => k p e s m args below meth c R H locs ls' cells slots Q C X hP hS (asl_st (lv := (a0 :: a1 :: a2 :: a3 :: a4 :: a5 :: a6 :: a7 :: a8 :: a9 :: a10 :: a11 :: some (.int x) :: t)) (i := 12) hl' rfl (by simp only [List.length_cons]; omega) (fun j w hj hw => asl_cat (i := 12) (a := a11) rfl hcat (j := j) hj hw)) hc)
theorem gn_iinc12 {a0 a1 a2 a3 a4 a5 a6 a7 a8 a9 a10 a11 : Option Value} {t : List (Option Value)} {x : Nat} {n : Int} (z : Nat) (pc' : Nat) (hp : pc + 3 = pc') (hd : decode cc pc = .ok (.iinc 12 n, 3)) (hz : Int32.ofInt n = nI z) (hn : 12 < nL) (hcat : catOK a11 = true) (k : G V E d own cc nL rt pc' (a0 :: a1 :: a2 :: a3 :: a4 :: a5 :: a6 :: a7 :: a8 :: a9 :: a10 :: a11 :: some (.int (nI (x + z))) :: t) (st) h post) : G V E d own cc nL rt pc (a0 :: a1 :: a2 :: a3 :: a4 :: a5 :: a6 :: a7 :: a8 :: a9 :: a10 :: a11 :: some (.int (nI x)) :: t) (st) h post := g_iinc12 pc' hp hd (by rw [hz, nI_add]) hn hcat k
theorem g_lstore_n1 {a0 b b2 : Option Value} {t : List (Option Value)} {x : Int64} (pc' : Nat) (hp : pc + 1 = pc') (hd : decode cc pc = .ok (.lstore_n 1, 1)) (hn : 1 + 1 < nL) (hcat : catOK a0 = true) (k : G V E d own cc nL rt pc' (a0 :: some (.long x) :: none :: t) (st) h post) : G V E d own cc nL rt pc (a0 :: b :: b2 :: t) (.long x :: st) h post := by
  subst hp
  exact fun p e s m args below meth c R H locs ls cells slots Q C X hP hS hl hc => lv_lstore_n C.1 C.2.1 hd rfl hl hn rfl (fun ls' hl' => k p e s m args below meth c R H locs ls' cells slots Q C X hP hS (asl_stl (lv := (a0 :: b :: b2 :: t)) (i := 1) hl' rfl (by simp only [List.length_cons]; omega) (fun j w hj hw => asl_cat (i := 1) (a := a0) rfl hcat (j := j) hj hw)) hc)
theorem g_lstore_n3 {a0 a1 a2 b b2 : Option Value} {t : List (Option Value)} {x : Int64} (pc' : Nat) (hp : pc + 1 = pc') (hd : decode cc pc = .ok (.lstore_n 3, 1)) (hn : 3 + 1 < nL) (hcat : catOK a2 = true) (k : G V E d own cc nL rt pc' (a0 :: a1 :: a2 :: some (.long x) :: none :: t) (st) h post) : G V E d own cc nL rt pc (a0 :: a1 :: a2 :: b :: b2 :: t) (.long x :: st) h post := by
  subst hp
  exact fun p e s m args below meth c R H locs ls cells slots Q C X hP hS hl hc => lv_lstore_n C.1 C.2.1 hd rfl hl hn rfl (fun ls' hl' => k p e s m args below meth c R H locs ls' cells slots Q C X hP hS (asl_stl (lv := (a0 :: a1 :: a2 :: b :: b2 :: t)) (i := 3) hl' rfl (by simp only [List.length_cons]; omega) (fun j w hj hw => asl_cat (i := 3) (a := a2) rfl hcat (j := j) hj hw)) hc)
theorem g_iret {x : Int32} (ty : FieldType) (hd : decode cc pc = .ok (.ireturn, 1)) (hr : rt = some ty) (hn : narrow ty (.int x) = .int x) (hq : post (some (.int x)) h) : G V E d own cc nL rt pc lv ([.int x]) h post := fun p e s m args below meth c R H locs ls cells slots Q C X hP hS hl hc => X.1 pc ls x h H locs ty hd hr hn hq hP hS
theorem g_lret {x : Int64} (hd : decode cc pc = .ok (.lreturn, 1)) (hr : rt = some .long) (hq : post (some (.long x)) h) : G V E d own cc nL rt pc lv ([.long x]) h post := fun p e s m args below meth c R H locs ls cells slots Q C X hP hS hl hc => X.2.1 pc ls x h H locs hd hr hq hP hS
theorem g_vret (hd : decode cc pc = .ok (.return_, 1)) (hr : rt = none) (hq : post none h) : G V E d own cc nL rt pc lv ([]) h post := fun p e s m args below meth c R H locs ls cells slots Q C X hP hS hl hc => X.2.2 pc ls h H locs hd hr hq hP hS
theorem g_less {lv' : List (Option Value)} (hs : ∀ (i : Nat) (v : Value), lv'[i]? = some (some v) → lv[i]? = some (some v)) (k : G V E d own cc nL rt pc lv' (st) h post) : G V E d own cc nL rt pc lv (st) h post := fun p e s m args below meth c R H locs ls cells slots Q C X hP hS hl hc => k p e s m args below meth c R H locs ls cells slots Q C X hP hS (asl_sub hl hs) hc
theorem g_max {x y : Int32} {index : Nat} (pc' : Nat) (hp : pc + 3 = pc') (hl1 : Cond.methodLink own index Lib.Math.max.name ∈ lw_tbl) (hd : decode cc pc = .ok (.invokestatic index, 3)) (h1 : 1 ≤ d) (hs : (st.map fun v => v.category).sum ≤ 8) (k : G V E d own cc nL rt pc' lv (.int (if x < y then y else x) :: st) h post) : G V E d own cc nL rt pc lv (.int y :: .int x :: st) h post := by
  subst hp
  exact fun p e s m args below meth c R H locs ls cells slots Q C X hP hS hl hc => va_mmax C.1 C.2.1 (C.2.2.1.trans hl.1.symm) C.2.2.2.1 (C.2.2.2.2.1 _ (lgm hl1 rfl)) (C.2.2.2.2.1 _ (lgm st_Lib_Math_max_name rfl)) (C.2.2.2.2.1 _ (lgm ini_RJ9 rfl)) (C.2.2.2.2.1 _ (lgm cd_Lib_Math_max_name rfl)) (Nat.le_trans h1 C.2.2.2.2.2.2.2.2.2.1) (by have := C.2.2.2.2.2.2.2.2.2.2.1; omega) hc.1 hc.2 hd (k p e s m args below meth c R H locs ls cells slots Q C X hP hS hl hc)
theorem gn_max {x y : Nat} {index : Nat} (pc' : Nat) (hp : pc + 3 = pc') (hl1 : Cond.methodLink own index Lib.Math.max.name ∈ lw_tbl) (hd : decode cc pc = .ok (.invokestatic index, 3)) (hx : x < 2 ^ 31) (hy : y < 2 ^ 31) (h1 : 1 ≤ d) (hs : (st.map fun v => v.category).sum ≤ 8) (k : G V E d own cc nL rt pc' lv (.int (nI (max x y)) :: st) h post) : G V E d own cc nL rt pc lv (.int (nI y) :: .int (nI x) :: st) h post := by
  refine g_max pc' hp hl1 hd h1 hs ?_
  rw [fx_max hx hy]
  exact k
theorem g_min {x y : Int32} {index : Nat} (pc' : Nat) (hp : pc + 3 = pc') (hl1 : Cond.methodLink own index Lib.Math.min.name ∈ lw_tbl) (hd : decode cc pc = .ok (.invokestatic index, 3)) (h1 : 1 ≤ d) (hs : (st.map fun v => v.category).sum ≤ 8) (k : G V E d own cc nL rt pc' lv (.int (if y < x then y else x) :: st) h post) : G V E d own cc nL rt pc lv (.int y :: .int x :: st) h post := by
  subst hp
  exact fun p e s m args below meth c R H locs ls cells slots Q C X hP hS hl hc => va_mmin C.1 C.2.1 (C.2.2.1.trans hl.1.symm) C.2.2.2.1 (C.2.2.2.2.1 _ (lgm hl1 rfl)) (C.2.2.2.2.1 _ (lgm st_Lib_Math_min_name rfl)) (C.2.2.2.2.1 _ (lgm ini_RJ9 rfl)) (C.2.2.2.2.1 _ (lgm cd_Lib_Math_min_name rfl)) (Nat.le_trans h1 C.2.2.2.2.2.2.2.2.2.1) (by have := C.2.2.2.2.2.2.2.2.2.2.1; omega) hc.1 hc.2 hd (k p e s m args below meth c R H locs ls cells slots Q C X hP hS hl hc)
theorem gn_min {x y : Nat} {index : Nat} (pc' : Nat) (hp : pc + 3 = pc') (hl1 : Cond.methodLink own index Lib.Math.min.name ∈ lw_tbl) (hd : decode cc pc = .ok (.invokestatic index, 3)) (hx : x < 2 ^ 31) (hy : y < 2 ^ 31) (h1 : 1 ≤ d) (hs : (st.map fun v => v.category).sum ≤ 8) (k : G V E d own cc nL rt pc' lv (.int (nI (min x y)) :: st) h post) : G V E d own cc nL rt pc lv (.int (nI y) :: .int (nI x) :: st) h post := by
  refine g_min pc' hp hl1 hd h1 hs ?_
  rw [fx_min hx hy]
  exact k
end Rules
end
section
theorem bnar {v : Nat} (hv : v < 2) : nI v = vp_nar .boolean (nI v) := by
  rcases (show v = 0 ∨ v = 1 by omega) with rfl | rfl <;> rfl
theorem cl_z0 (V : Vt) {h : Hp} {x : Int64} {i : Nat} (hi : i ≠ 0) : cl V (sL h 0 x).2 i ((sL h 0 x).1 (rw i)) = cl V h.2 i (h.1 (rw i)) := by
  show cl V (fun q => if q = 0 then x else h.2 q) i (h.1 (rw i)) = _
  unfold cl
  split
  · unfold c0
    split <;> first | rfl | exact absurd rfl hi
  · rfl
theorem cl_z1 (V : Vt) {h : Hp} {x : Int64} {i : Nat} (hi : i ≠ 22) : cl V (sL h 1 x).2 i ((sL h 1 x).1 (rw i)) = cl V h.2 i (h.1 (rw i)) := by
  show cl V (fun q => if q = 1 then x else h.2 q) i (h.1 (rw i)) = _
  unfold cl
  split
  · unfold c0
    split <;> first | rfl | exact absurd rfl hi
  · rfl
section Fields
variable {V : Vt} {E : State → Prop} {d : Nat} {own : String} {cc : ByteArray} {nL : Nat} {rt : Option FieldType} {pc : Nat} {lv : List (Option Value)} {st : List Value} {h : Hp} {post : Option Value → Hp → Prop}
theorem g_get {k ci j idx N : Nat} {fs : List Value} {v : Value} {C : String} {T : u_T} (pc' : Nat) (hp : pc + 3 = pc') (hk : k < 85) (hc0 : cl V h.2 k (h.1 (rw k)) = .inr (ci, fs)) (hcl : vwCl[ci]? = some (C, T, N)) (hin : ∀ w ∈ u_ws C T N, w ∈ lw_tbl) (hj : j < N) (hlink : Cond.fieldLink own idx (T j).1 (T j).2.1 (T j).2.2.1 ∈ lw_tbl) (hv : fs[j]? = some v) (hd : decode cc pc = .ok (.getfield idx, 3)) (kk : G V E d own cc nL rt pc' lv (v :: st) h post) : G V E d own cc nL rt pc lv (rf V k :: st) h post := by
  subst hp
  intro p e s m args below meth c R H locs ls cells slots Q C X hP hS hl hc
  have he := wd_at V h hk
  rw [hc0] at he
  exact va_get (D := V.2.1) (cl := vwCl) C.1 C.2.1 C.2.2.2.2.1 (lg_lays hin) C.2.2.2.1 C.2.2.2.2.2.2.2.1 hP k he hcl j hj (C.2.2.2.2.1 _ (lgm hlink rfl)) (fun _ h9 => h9) hv hd (kk p e s m args below meth c R H locs ls cells slots Q C X hP hS hl hc)
theorem g_put {k ci j idx N off n : Nat} {fs : List Value} {C : String} {T : u_T} {ty0 : Nat → FieldType} (pc' : Nat) (hp : pc + 3 = pc') (hk : k < 85) (hc0 : cl V h.2 k (h.1 (rw k)) = .inr (ci, fs)) (hcl : vwCl[ci]? = some (C, T, N)) (hin : ∀ w ∈ u_ws C T N, w ∈ lw_tbl) (hty : ∀ k, k < N → parseFieldDescriptor (T k).2.2.1 = some (ty0 k)) (hnm : ∀ a, a < N → ∀ b, b < N → a ≠ b → (T a).2.1 ≠ (T b).2.1) (hj : j < N) (hfin : (T j).2.2.2 = false) (hde : parseFieldDescriptor (T j).2.2.1 = some .int) (hlen : j < fs.length) (ho : ow (rw k) off = k) (he : cl V h.2 k (up (h.1 (rw k)) off n) = .inr (ci, fs.set j (.int (nI n)))) (hlink : Cond.fieldLink own idx (T j).1 (T j).2.1 (T j).2.2.1 ∈ lw_tbl) (hd : decode cc pc = .ok (.putfield idx, 3)) (kk : G V E d own cc nL rt pc' lv (st) (sR h (rw k) (up (h.1 (rw k)) off n)) post) : G V E d own cc nL rt pc lv (.int (nI n) :: rf V k :: st) h post := by
  subst hp
  intro p e s m args below meth c R H locs ls cells slots Q C X hP hS hl hc
  have he0 := wd_at V h hk
  rw [hc0] at he0
  refine va_put (D := V.2.1) (cl := vwCl) (ty := .int) C.1 C.2.1 C.2.2.2.2.1 (lg_lays hin) ty0 hty hnm C.2.2.2.1 C.2.2.2.2.2.2.2.1 hP (C.2.2.2.2.2.2.2.2.1 h) hS k he0 hcl j hj (C.2.2.2.2.1 _ (lgm hlink rfl)) (fun _ h9 => h9) hfin hde rfl rfl hlen hd (fun H1 locs1 hP1 hD1 hS1 => ?_)
  rw [wd_put V h hk ho he] at hP1
  exact kk p e s m args below meth c R H1 locs1 ls cells slots Q C X hP1 hS1 hl hc
theorem g_putl {k ci j idx N i : Nat} {x : Int64} {fs : List Value} {C : String} {T : u_T} {ty0 : Nat → FieldType} (pc' : Nat) (hp : pc + 3 = pc') (hk : k < 85) (hc0 : cl V h.2 k (h.1 (rw k)) = .inr (ci, fs)) (hcl : vwCl[ci]? = some (C, T, N)) (hin : ∀ w ∈ u_ws C T N, w ∈ lw_tbl) (hty : ∀ k, k < N → parseFieldDescriptor (T k).2.2.1 = some (ty0 k)) (hnm : ∀ a, a < N → ∀ b, b < N → a ≠ b → (T a).2.1 ≠ (T b).2.1) (hj : j < N) (hfin : (T j).2.2.2 = false) (hde : parseFieldDescriptor (T j).2.2.1 = some .long) (hlen : j < fs.length) (he : (wd V h).set k (V.2.2.2.1 k, .inr (ci, fs.set j (.long x))) = wd V (sL h i x)) (hlink : Cond.fieldLink own idx (T j).1 (T j).2.1 (T j).2.2.1 ∈ lw_tbl) (hd : decode cc pc = .ok (.putfield idx, 3)) (kk : G V E d own cc nL rt pc' lv (st) (sL h i x) post) : G V E d own cc nL rt pc lv (.long x :: rf V k :: st) h post := by
  subst hp
  intro p e s m args below meth c R H locs ls cells slots Q C X hP hS hl hc
  have he0 := wd_at V h hk
  rw [hc0] at he0
  refine va_put (D := V.2.1) (cl := vwCl) (ty := .long) C.1 C.2.1 C.2.2.2.2.1 (lg_lays hin) ty0 hty hnm C.2.2.2.1 C.2.2.2.2.2.2.2.1 hP (C.2.2.2.2.2.2.2.2.1 h) hS k he0 hcl j hj (C.2.2.2.2.1 _ (lgm hlink rfl)) (fun _ h9 => h9) hfin hde rfl rfl hlen hd (fun H1 locs1 hP1 hD1 hS1 => ?_)
  rw [he] at hP1
  exact kk p e s m args below meth c R H1 locs1 ls cells slots Q C X hP1 hS1 hl hc
theorem gf_MT_script {idx : Nat} (pc' : Nat) (hp : pc + 3 = pc') (hl : Cond.fieldLink own idx "MustardTreaty" "script" "LMustardTreaty$Script;" ∈ lw_tbl) (hd : decode cc pc = .ok (.getfield idx, 3)) (kk : G V E d own cc nL rt pc' lv (rf V 1 :: st) h post) : G V E d own cc nL rt pc lv (rf V 0 :: st) h post := g_get (k := 0) (ci := 8) (j := 0) (T := TX8) (C := RX8) (N := 10) pc' hp (by decide) rfl rfl inX8 (by decide) hl rfl hd kk
theorem gf_MT_rules {idx : Nat} (pc' : Nat) (hp : pc + 3 = pc') (hl : Cond.fieldLink own idx "MustardTreaty" "rules" "LMustardTreaty$Rules;" ∈ lw_tbl) (hd : decode cc pc = .ok (.getfield idx, 3)) (kk : G V E d own cc nL rt pc' lv (rf V 3 :: st) h post) : G V E d own cc nL rt pc lv (rf V 0 :: st) h post := g_get (k := 0) (ci := 8) (j := 1) (T := TX8) (C := RX8) (N := 10) pc' hp (by decide) rfl rfl inX8 (by decide) hl rfl hd kk
theorem gf_MT_table {idx : Nat} (pc' : Nat) (hp : pc + 3 = pc') (hl : Cond.fieldLink own idx "MustardTreaty" "table" "LMustardTreaty$Table;" ∈ lw_tbl) (hd : decode cc pc = .ok (.getfield idx, 3)) (kk : G V E d own cc nL rt pc' lv (rf V (tb 0) :: st) h post) : G V E d own cc nL rt pc lv (rf V 0 :: st) h post := g_get (k := 0) (ci := 8) (j := 2) (T := TX8) (C := RX8) (N := 10) pc' hp (by decide) rfl rfl inX8 (by decide) hl rfl hd kk
theorem gf_MT_trial {idx : Nat} (pc' : Nat) (hp : pc + 3 = pc') (hl : Cond.fieldLink own idx "MustardTreaty" "trial" "LMustardTreaty$Table;" ∈ lw_tbl) (hd : decode cc pc = .ok (.getfield idx, 3)) (kk : G V E d own cc nL rt pc' lv (rf V (tb 1) :: st) h post) : G V E d own cc nL rt pc lv (rf V 0 :: st) h post := g_get (k := 0) (ci := 8) (j := 3) (T := TX8) (C := RX8) (N := 10) pc' hp (by decide) rfl rfl inX8 (by decide) hl rfl hd kk
theorem gf_MT_acts {idx : Nat} (pc' : Nat) (hp : pc + 3 = pc') (hl : Cond.fieldLink own idx "MustardTreaty" "acts" "LMustardTreaty$Acts;" ∈ lw_tbl) (hd : decode cc pc = .ok (.getfield idx, 3)) (kk : G V E d own cc nL rt pc' lv (rf V 10 :: st) h post) : G V E d own cc nL rt pc lv (rf V 0 :: st) h post := g_get (k := 0) (ci := 8) (j := 4) (T := TX8) (C := RX8) (N := 10) pc' hp (by decide) rfl rfl inX8 (by decide) hl rfl hd kk
theorem gf_MT_slots {idx : Nat} (pc' : Nat) (hp : pc + 3 = pc') (hl : Cond.fieldLink own idx "MustardTreaty" "slots" "LMustardTreaty$Slots;" ∈ lw_tbl) (hd : decode cc pc = .ok (.getfield idx, 3)) (kk : G V E d own cc nL rt pc' lv (rf V 12 :: st) h post) : G V E d own cc nL rt pc lv (rf V 0 :: st) h post := g_get (k := 0) (ci := 8) (j := 5) (T := TX8) (C := RX8) (N := 10) pc' hp (by decide) rfl rfl inX8 (by decide) hl rfl hd kk
theorem gf_MT_sights {idx : Nat} (pc' : Nat) (hp : pc + 3 = pc') (hl : Cond.fieldLink own idx "MustardTreaty" "sights" "LMustardTreaty$Sights;" ∈ lw_tbl) (hd : decode cc pc = .ok (.getfield idx, 3)) (kk : G V E d own cc nL rt pc' lv (rf V 15 :: st) h post) : G V E d own cc nL rt pc lv (rf V 0 :: st) h post := g_get (k := 0) (ci := 8) (j := 6) (T := TX8) (C := RX8) (N := 10) pc' hp (by decide) rfl rfl inX8 (by decide) hl rfl hd kk
theorem gf_MT_search {idx : Nat} (pc' : Nat) (hp : pc + 3 = pc') (hl : Cond.fieldLink own idx "MustardTreaty" "search" "LMustardTreaty$Search;" ∈ lw_tbl) (hd : decode cc pc = .ok (.getfield idx, 3)) (kk : G V E d own cc nL rt pc' lv (rf V 19 :: st) h post) : G V E d own cc nL rt pc lv (rf V 0 :: st) h post := g_get (k := 0) (ci := 8) (j := 7) (T := TX8) (C := RX8) (N := 10) pc' hp (by decide) rfl rfl inX8 (by decide) hl rfl hd kk
theorem gf_MT_stops {idx : Nat} (pc' : Nat) (hp : pc + 3 = pc') (hl : Cond.fieldLink own idx "MustardTreaty" "stops" "LMustardTreaty$Stops;" ∈ lw_tbl) (hd : decode cc pc = .ok (.getfield idx, 3)) (kk : G V E d own cc nL rt pc' lv (rf V 21 :: st) h post) : G V E d own cc nL rt pc lv (rf V 0 :: st) h post := g_get (k := 0) (ci := 8) (j := 8) (T := TX8) (C := RX8) (N := 10) pc' hp (by decide) rfl rfl inX8 (by decide) hl rfl hd kk
theorem gf_MT_chanceSeed {idx : Nat} (pc' : Nat) (hp : pc + 3 = pc') (hl : Cond.fieldLink own idx "MustardTreaty" "chanceSeed" "J" ∈ lw_tbl) (hd : decode cc pc = .ok (.getfield idx, 3)) (kk : G V E d own cc nL rt pc' lv (.long (h.2 0) :: st) h post) : G V E d own cc nL rt pc lv (rf V 0 :: st) h post := g_get (k := 0) (ci := 8) (j := 9) (T := TX8) (C := RX8) (N := 10) pc' hp (by decide) rfl rfl inX8 (by decide) hl rfl hd kk
theorem wd_sL0 (V : Vt) (h : Hp) (x : Int64) : (wd V h).set 0 (V.2.2.2.1 0, .inr (8, [rf V 1, rf V 3, rf V (tb 0), rf V (tb 1), rf V 10, rf V 12, rf V 15, rf V 19, rf V 21, .long x])) = wd V (sL h 0 x) := by
  refine wd_set V (by decide) rfl ?_
  intro i hi hik
  exact cl_z0 V hik
theorem gp_MT_chanceSeed {idx : Nat} {x : Int64} (pc' : Nat) (hp : pc + 3 = pc') (hl : Cond.fieldLink own idx "MustardTreaty" "chanceSeed" "J" ∈ lw_tbl) (hd : decode cc pc = .ok (.putfield idx, 3)) (kk : G V E d own cc nL rt pc' lv (st) (sL h 0 x) post) : G V E d own cc nL rt pc lv (.long x :: rf V 0 :: st) h post := g_putl (k := 0) (ci := 8) (j := 9) (i := 0) (T := TX8) (C := RX8) (N := 10) (ty0 := tyX8) pc' hp (by decide) rfl rfl inX8 tyX8_ok nmX8 (by decide) rfl (by decide +kernel) (Nat.le_of_ble_eq_true rfl) (wd_sL0 V h x) hl hd kk
theorem gf_Script_bytes {idx : Nat} (pc' : Nat) (hp : pc + 3 = pc') (hl : Cond.fieldLink own idx "MustardTreaty$Script" "bytes" "[I" ∈ lw_tbl) (hd : decode cc pc = .ok (.getfield idx, 3)) (kk : G V E d own cc nL rt pc' lv (rf V 2 :: st) h post) : G V E d own cc nL rt pc lv (rf V 1 :: st) h post := g_get (k := 1) (ci := 2) (j := 0) (T := TX2) (C := RX2) (N := 2) pc' hp (by decide) rfl rfl inX2 (by decide) hl rfl hd kk
theorem gf_Script_length {idx : Nat} (pc' : Nat) (hp : pc + 3 = pc') (hl : Cond.fieldLink own idx "MustardTreaty$Script" "length" "I" ∈ lw_tbl) (hd : decode cc pc = .ok (.getfield idx, 3)) (kk : G V E d own cc nL rt pc' lv (.int (nI (h.1 1 0)) :: st) h post) : G V E d own cc nL rt pc lv (rf V 1 :: st) h post := g_get (k := 1) (ci := 2) (j := 1) (T := TX2) (C := RX2) (N := 2) pc' hp (by decide) rfl rfl inX2 (by decide) hl rfl hd kk
theorem gp_Script_length {idx n : Nat} (pc' : Nat) (hp : pc + 3 = pc') (hl : Cond.fieldLink own idx "MustardTreaty$Script" "length" "I" ∈ lw_tbl) (hd : decode cc pc = .ok (.putfield idx, 3)) (kk : G V E d own cc nL rt pc' lv (st) (sR h 1 (up (h.1 1) 0 n)) post) : G V E d own cc nL rt pc lv (.int (nI n) :: rf V 1 :: st) h post := g_put (k := 1) (ci := 2) (j := 1) (off := 0) (T := TX2) (C := RX2) (N := 2) (ty0 := tyX2) pc' hp (by decide) rfl rfl inX2 tyX2_ok nmX2 (by decide) rfl (by decide +kernel) (Nat.le_of_ble_eq_true rfl) rfl rfl hl hd kk
theorem gf_Rules_heatAtFirst {idx : Nat} (pc' : Nat) (hp : pc + 3 = pc') (hl : Cond.fieldLink own idx "MustardTreaty$Rules" "heatAtFirst" "I" ∈ lw_tbl) (hd : decode cc pc = .ok (.getfield idx, 3)) (kk : G V E d own cc nL rt pc' lv (.int (nI (h.1 3 0)) :: st) h post) : G V E d own cc nL rt pc lv (rf V 3 :: st) h post := g_get (k := 3) (ci := 1) (j := 0) (T := TX1) (C := RX1) (N := 10) pc' hp (by decide) rfl rfl inX1 (by decide) hl rfl hd kk
theorem gp_Rules_heatAtFirst {idx n : Nat} (pc' : Nat) (hp : pc + 3 = pc') (hl : Cond.fieldLink own idx "MustardTreaty$Rules" "heatAtFirst" "I" ∈ lw_tbl) (hd : decode cc pc = .ok (.putfield idx, 3)) (kk : G V E d own cc nL rt pc' lv (st) (sR h 3 (up (h.1 3) 0 n)) post) : G V E d own cc nL rt pc lv (.int (nI n) :: rf V 3 :: st) h post := g_put (k := 3) (ci := 1) (j := 0) (off := 0) (T := TX1) (C := RX1) (N := 10) (ty0 := tyX1) pc' hp (by decide) rfl rfl inX1 tyX1_ok nmX1 (by decide) rfl (by decide +kernel) (Nat.le_of_ble_eq_true rfl) rfl rfl hl hd kk
theorem gf_Rules_storeAtFirst {idx : Nat} (pc' : Nat) (hp : pc + 3 = pc') (hl : Cond.fieldLink own idx "MustardTreaty$Rules" "storeAtFirst" "I" ∈ lw_tbl) (hd : decode cc pc = .ok (.getfield idx, 3)) (kk : G V E d own cc nL rt pc' lv (.int (nI (h.1 3 1)) :: st) h post) : G V E d own cc nL rt pc lv (rf V 3 :: st) h post := g_get (k := 3) (ci := 1) (j := 1) (T := TX1) (C := RX1) (N := 10) pc' hp (by decide) rfl rfl inX1 (by decide) hl rfl hd kk
theorem gp_Rules_storeAtFirst {idx n : Nat} (pc' : Nat) (hp : pc + 3 = pc') (hl : Cond.fieldLink own idx "MustardTreaty$Rules" "storeAtFirst" "I" ∈ lw_tbl) (hd : decode cc pc = .ok (.putfield idx, 3)) (kk : G V E d own cc nL rt pc' lv (st) (sR h 3 (up (h.1 3) 1 n)) post) : G V E d own cc nL rt pc lv (.int (nI n) :: rf V 3 :: st) h post := g_put (k := 3) (ci := 1) (j := 1) (off := 1) (T := TX1) (C := RX1) (N := 10) (ty0 := tyX1) pc' hp (by decide) rfl rfl inX1 tyX1_ok nmX1 (by decide) rfl (by decide +kernel) (Nat.le_of_ble_eq_true rfl) rfl rfl hl hd kk
theorem gf_Rules_envoys {idx : Nat} (pc' : Nat) (hp : pc + 3 = pc') (hl : Cond.fieldLink own idx "MustardTreaty$Rules" "envoys" "I" ∈ lw_tbl) (hd : decode cc pc = .ok (.getfield idx, 3)) (kk : G V E d own cc nL rt pc' lv (.int (nI (h.1 3 2)) :: st) h post) : G V E d own cc nL rt pc lv (rf V 3 :: st) h post := g_get (k := 3) (ci := 1) (j := 2) (T := TX1) (C := RX1) (N := 10) pc' hp (by decide) rfl rfl inX1 (by decide) hl rfl hd kk
theorem gp_Rules_envoys {idx n : Nat} (pc' : Nat) (hp : pc + 3 = pc') (hl : Cond.fieldLink own idx "MustardTreaty$Rules" "envoys" "I" ∈ lw_tbl) (hd : decode cc pc = .ok (.putfield idx, 3)) (kk : G V E d own cc nL rt pc' lv (st) (sR h 3 (up (h.1 3) 2 n)) post) : G V E d own cc nL rt pc lv (.int (nI n) :: rf V 3 :: st) h post := g_put (k := 3) (ci := 1) (j := 2) (off := 2) (T := TX1) (C := RX1) (N := 10) (ty0 := tyX1) pc' hp (by decide) rfl rfl inX1 tyX1_ok nmX1 (by decide) rfl (by decide +kernel) (Nat.le_of_ble_eq_true rfl) rfl rfl hl hd kk
theorem gf_Rules_clauses {idx : Nat} (pc' : Nat) (hp : pc + 3 = pc') (hl : Cond.fieldLink own idx "MustardTreaty$Rules" "clauses" "I" ∈ lw_tbl) (hd : decode cc pc = .ok (.getfield idx, 3)) (kk : G V E d own cc nL rt pc' lv (.int (nI (h.1 3 3)) :: st) h post) : G V E d own cc nL rt pc lv (rf V 3 :: st) h post := g_get (k := 3) (ci := 1) (j := 3) (T := TX1) (C := RX1) (N := 10) pc' hp (by decide) rfl rfl inX1 (by decide) hl rfl hd kk
theorem gp_Rules_clauses {idx n : Nat} (pc' : Nat) (hp : pc + 3 = pc') (hl : Cond.fieldLink own idx "MustardTreaty$Rules" "clauses" "I" ∈ lw_tbl) (hd : decode cc pc = .ok (.putfield idx, 3)) (kk : G V E d own cc nL rt pc' lv (st) (sR h 3 (up (h.1 3) 3 n)) post) : G V E d own cc nL rt pc lv (.int (nI n) :: rf V 3 :: st) h post := g_put (k := 3) (ci := 1) (j := 3) (off := 3) (T := TX1) (C := RX1) (N := 10) (ty0 := tyX1) pc' hp (by decide) rfl rfl inX1 tyX1_ok nmX1 (by decide) rfl (by decide +kernel) (Nat.le_of_ble_eq_true rfl) rfl rfl hl hd kk
theorem gf_Rules_palate {idx : Nat} (pc' : Nat) (hp : pc + 3 = pc') (hl : Cond.fieldLink own idx "MustardTreaty$Rules" "palate" "[I" ∈ lw_tbl) (hd : decode cc pc = .ok (.getfield idx, 3)) (kk : G V E d own cc nL rt pc' lv (rf V 4 :: st) h post) : G V E d own cc nL rt pc lv (rf V 3 :: st) h post := g_get (k := 3) (ci := 1) (j := 4) (T := TX1) (C := RX1) (N := 10) pc' hp (by decide) rfl rfl inX1 (by decide) hl rfl hd kk
theorem gf_Rules_wits {idx : Nat} (pc' : Nat) (hp : pc + 3 = pc') (hl : Cond.fieldLink own idx "MustardTreaty$Rules" "wits" "[I" ∈ lw_tbl) (hd : decode cc pc = .ok (.getfield idx, 3)) (kk : G V E d own cc nL rt pc' lv (rf V 5 :: st) h post) : G V E d own cc nL rt pc lv (rf V 3 :: st) h post := g_get (k := 3) (ci := 1) (j := 5) (T := TX1) (C := RX1) (N := 10) pc' hp (by decide) rfl rfl inX1 (by decide) hl rfl hd kk
theorem gf_Rules_kind {idx : Nat} (pc' : Nat) (hp : pc + 3 = pc') (hl : Cond.fieldLink own idx "MustardTreaty$Rules" "kind" "[I" ∈ lw_tbl) (hd : decode cc pc = .ok (.getfield idx, 3)) (kk : G V E d own cc nL rt pc' lv (rf V 6 :: st) h post) : G V E d own cc nL rt pc lv (rf V 3 :: st) h post := g_get (k := 3) (ci := 1) (j := 6) (T := TX1) (C := RX1) (N := 10) pc' hp (by decide) rfl rfl inX1 (by decide) hl rfl hd kk
theorem gf_Rules_words {idx : Nat} (pc' : Nat) (hp : pc + 3 = pc') (hl : Cond.fieldLink own idx "MustardTreaty$Rules" "words" "[I" ∈ lw_tbl) (hd : decode cc pc = .ok (.getfield idx, 3)) (kk : G V E d own cc nL rt pc' lv (rf V 7 :: st) h post) : G V E d own cc nL rt pc lv (rf V 3 :: st) h post := g_get (k := 3) (ci := 1) (j := 7) (T := TX1) (C := RX1) (N := 10) pc' hp (by decide) rfl rfl inX1 (by decide) hl rfl hd kk
theorem gf_Rules_heatNeeded {idx : Nat} (pc' : Nat) (hp : pc + 3 = pc') (hl : Cond.fieldLink own idx "MustardTreaty$Rules" "heatNeeded" "[I" ∈ lw_tbl) (hd : decode cc pc = .ok (.getfield idx, 3)) (kk : G V E d own cc nL rt pc' lv (rf V 8 :: st) h post) : G V E d own cc nL rt pc lv (rf V 3 :: st) h post := g_get (k := 3) (ci := 1) (j := 8) (T := TX1) (C := RX1) (N := 10) pc' hp (by decide) rfl rfl inX1 (by decide) hl rfl hd kk
theorem gf_Rules_owner {idx : Nat} (pc' : Nat) (hp : pc + 3 = pc') (hl : Cond.fieldLink own idx "MustardTreaty$Rules" "owner" "[I" ∈ lw_tbl) (hd : decode cc pc = .ok (.getfield idx, 3)) (kk : G V E d own cc nL rt pc' lv (rf V 9 :: st) h post) : G V E d own cc nL rt pc lv (rf V 3 :: st) h post := g_get (k := 3) (ci := 1) (j := 9) (T := TX1) (C := RX1) (N := 10) pc' hp (by decide) rfl rfl inX1 (by decide) hl rfl hd kk
theorem gf_Acts_before {idx : Nat} (pc' : Nat) (hp : pc + 3 = pc') (hl : Cond.fieldLink own idx "MustardTreaty$Acts" "before" "[LMustardTreaty$Table;" ∈ lw_tbl) (hd : decode cc pc = .ok (.getfield idx, 3)) (kk : G V E d own cc nL rt pc' lv (rf V 11 :: st) h post) : G V E d own cc nL rt pc lv (rf V 10 :: st) h post := g_get (k := 10) (ci := 0) (j := 0) (T := TX0) (C := RX0) (N := 3) pc' hp (by decide) rfl rfl inX0 (by decide) hl rfl hd kk
theorem gf_Acts_oldest {idx : Nat} (pc' : Nat) (hp : pc + 3 = pc') (hl : Cond.fieldLink own idx "MustardTreaty$Acts" "oldest" "I" ∈ lw_tbl) (hd : decode cc pc = .ok (.getfield idx, 3)) (kk : G V E d own cc nL rt pc' lv (.int (nI (h.1 10 1)) :: st) h post) : G V E d own cc nL rt pc lv (rf V 10 :: st) h post := g_get (k := 10) (ci := 0) (j := 1) (T := TX0) (C := RX0) (N := 3) pc' hp (by decide) rfl rfl inX0 (by decide) hl rfl hd kk
theorem gp_Acts_oldest {idx n : Nat} (pc' : Nat) (hp : pc + 3 = pc') (hl : Cond.fieldLink own idx "MustardTreaty$Acts" "oldest" "I" ∈ lw_tbl) (hd : decode cc pc = .ok (.putfield idx, 3)) (kk : G V E d own cc nL rt pc' lv (st) (sR h 10 (up (h.1 10) 1 n)) post) : G V E d own cc nL rt pc lv (.int (nI n) :: rf V 10 :: st) h post := g_put (k := 10) (ci := 0) (j := 1) (off := 1) (T := TX0) (C := RX0) (N := 3) (ty0 := tyX0) pc' hp (by decide) rfl rfl inX0 tyX0_ok nmX0 (by decide) rfl (by decide +kernel) (Nat.le_of_ble_eq_true rfl) rfl rfl hl hd kk
theorem gf_Acts_count {idx : Nat} (pc' : Nat) (hp : pc + 3 = pc') (hl : Cond.fieldLink own idx "MustardTreaty$Acts" "count" "I" ∈ lw_tbl) (hd : decode cc pc = .ok (.getfield idx, 3)) (kk : G V E d own cc nL rt pc' lv (.int (nI (h.1 10 2)) :: st) h post) : G V E d own cc nL rt pc lv (rf V 10 :: st) h post := g_get (k := 10) (ci := 0) (j := 2) (T := TX0) (C := RX0) (N := 3) pc' hp (by decide) rfl rfl inX0 (by decide) hl rfl hd kk
theorem gp_Acts_count {idx n : Nat} (pc' : Nat) (hp : pc + 3 = pc') (hl : Cond.fieldLink own idx "MustardTreaty$Acts" "count" "I" ∈ lw_tbl) (hd : decode cc pc = .ok (.putfield idx, 3)) (kk : G V E d own cc nL rt pc' lv (st) (sR h 10 (up (h.1 10) 2 n)) post) : G V E d own cc nL rt pc lv (.int (nI n) :: rf V 10 :: st) h post := g_put (k := 10) (ci := 0) (j := 2) (off := 2) (T := TX0) (C := RX0) (N := 3) (ty0 := tyX0) pc' hp (by decide) rfl rfl inX0 tyX0_ok nmX0 (by decide) rfl (by decide +kernel) (Nat.le_of_ble_eq_true rfl) rfl rfl hl hd kk
theorem gf_Slots_tables {idx : Nat} (pc' : Nat) (hp : pc + 3 = pc') (hl : Cond.fieldLink own idx "MustardTreaty$Slots" "tables" "[LMustardTreaty$Table;" ∈ lw_tbl) (hd : decode cc pc = .ok (.getfield idx, 3)) (kk : G V E d own cc nL rt pc' lv (rf V 13 :: st) h post) : G V E d own cc nL rt pc lv (rf V 12 :: st) h post := g_get (k := 12) (ci := 5) (j := 0) (T := TX5) (C := RX5) (N := 2) pc' hp (by decide) rfl rfl inX5 (by decide) hl rfl hd kk
theorem gf_Slots_used {idx : Nat} (pc' : Nat) (hp : pc + 3 = pc') (hl : Cond.fieldLink own idx "MustardTreaty$Slots" "used" "[Z" ∈ lw_tbl) (hd : decode cc pc = .ok (.getfield idx, 3)) (kk : G V E d own cc nL rt pc' lv (rf V 14 :: st) h post) : G V E d own cc nL rt pc lv (rf V 12 :: st) h post := g_get (k := 12) (ci := 5) (j := 1) (T := TX5) (C := RX5) (N := 2) pc' hp (by decide) rfl rfl inX5 (by decide) hl rfl hd kk
theorem gf_Sights_kinds {idx : Nat} (pc' : Nat) (hp : pc + 3 = pc') (hl : Cond.fieldLink own idx "MustardTreaty$Sights" "kinds" "[I" ∈ lw_tbl) (hd : decode cc pc = .ok (.getfield idx, 3)) (kk : G V E d own cc nL rt pc' lv (rf V 16 :: st) h post) : G V E d own cc nL rt pc lv (rf V 15 :: st) h post := g_get (k := 15) (ci := 4) (j := 0) (T := TX4) (C := RX4) (N := 4) pc' hp (by decide) rfl rfl inX4 (by decide) hl rfl hd kk
theorem gf_Sights_heats {idx : Nat} (pc' : Nat) (hp : pc + 3 = pc') (hl : Cond.fieldLink own idx "MustardTreaty$Sights" "heats" "[I" ∈ lw_tbl) (hd : decode cc pc = .ok (.getfield idx, 3)) (kk : G V E d own cc nL rt pc' lv (rf V 17 :: st) h post) : G V E d own cc nL rt pc lv (rf V 15 :: st) h post := g_get (k := 15) (ci := 4) (j := 1) (T := TX4) (C := RX4) (N := 4) pc' hp (by decide) rfl rfl inX4 (by decide) hl rfl hd kk
theorem gf_Sights_tears {idx : Nat} (pc' : Nat) (hp : pc + 3 = pc') (hl : Cond.fieldLink own idx "MustardTreaty$Sights" "tears" "[I" ∈ lw_tbl) (hd : decode cc pc = .ok (.getfield idx, 3)) (kk : G V E d own cc nL rt pc' lv (rf V 18 :: st) h post) : G V E d own cc nL rt pc lv (rf V 15 :: st) h post := g_get (k := 15) (ci := 4) (j := 2) (T := TX4) (C := RX4) (N := 4) pc' hp (by decide) rfl rfl inX4 (by decide) hl rfl hd kk
theorem gf_Sights_count {idx : Nat} (pc' : Nat) (hp : pc + 3 = pc') (hl : Cond.fieldLink own idx "MustardTreaty$Sights" "count" "I" ∈ lw_tbl) (hd : decode cc pc = .ok (.getfield idx, 3)) (kk : G V E d own cc nL rt pc' lv (.int (nI (h.1 15 3)) :: st) h post) : G V E d own cc nL rt pc lv (rf V 15 :: st) h post := g_get (k := 15) (ci := 4) (j := 3) (T := TX4) (C := RX4) (N := 4) pc' hp (by decide) rfl rfl inX4 (by decide) hl rfl hd kk
theorem gp_Sights_count {idx n : Nat} (pc' : Nat) (hp : pc + 3 = pc') (hl : Cond.fieldLink own idx "MustardTreaty$Sights" "count" "I" ∈ lw_tbl) (hd : decode cc pc = .ok (.putfield idx, 3)) (kk : G V E d own cc nL rt pc' lv (st) (sR h 15 (up (h.1 15) 3 n)) post) : G V E d own cc nL rt pc lv (.int (nI n) :: rf V 15 :: st) h post := g_put (k := 15) (ci := 4) (j := 3) (off := 3) (T := TX4) (C := RX4) (N := 4) (ty0 := tyX4) pc' hp (by decide) rfl rfl inX4 tyX4_ok nmX4 (by decide) rfl (by decide +kernel) (Nat.le_of_ble_eq_true rfl) rfl rfl hl hd kk
theorem gf_Search_rules {idx : Nat} (pc' : Nat) (hp : pc + 3 = pc') (hl : Cond.fieldLink own idx "MustardTreaty$Search" "rules" "LMustardTreaty$Rules;" ∈ lw_tbl) (hd : decode cc pc = .ok (.getfield idx, 3)) (kk : G V E d own cc nL rt pc' lv (rf V 3 :: st) h post) : G V E d own cc nL rt pc lv (rf V 19 :: st) h post := g_get (k := 19) (ci := 3) (j := 0) (T := TX3) (C := RX3) (N := 6) pc' hp (by decide) rfl rfl inX3 (by decide) hl rfl hd kk
theorem gf_Search_behind {idx : Nat} (pc' : Nat) (hp : pc + 3 = pc') (hl : Cond.fieldLink own idx "MustardTreaty$Search" "behind" "[LMustardTreaty$Table;" ∈ lw_tbl) (hd : decode cc pc = .ok (.getfield idx, 3)) (kk : G V E d own cc nL rt pc' lv (rf V 20 :: st) h post) : G V E d own cc nL rt pc lv (rf V 19 :: st) h post := g_get (k := 19) (ci := 3) (j := 1) (T := TX3) (C := RX3) (N := 6) pc' hp (by decide) rfl rfl inX3 (by decide) hl rfl hd kk
theorem gf_Search_turns {idx : Nat} (pc' : Nat) (hp : pc + 3 = pc') (hl : Cond.fieldLink own idx "MustardTreaty$Search" "turns" "I" ∈ lw_tbl) (hd : decode cc pc = .ok (.getfield idx, 3)) (kk : G V E d own cc nL rt pc' lv (.int (nI (h.1 19 2)) :: st) h post) : G V E d own cc nL rt pc lv (rf V 19 :: st) h post := g_get (k := 19) (ci := 3) (j := 2) (T := TX3) (C := RX3) (N := 6) pc' hp (by decide) rfl rfl inX3 (by decide) hl rfl hd kk
theorem gp_Search_turns {idx n : Nat} (pc' : Nat) (hp : pc + 3 = pc') (hl : Cond.fieldLink own idx "MustardTreaty$Search" "turns" "I" ∈ lw_tbl) (hd : decode cc pc = .ok (.putfield idx, 3)) (kk : G V E d own cc nL rt pc' lv (st) (sR h 19 (up (h.1 19) 2 n)) post) : G V E d own cc nL rt pc lv (.int (nI n) :: rf V 19 :: st) h post := g_put (k := 19) (ci := 3) (j := 2) (off := 2) (T := TX3) (C := RX3) (N := 6) (ty0 := tyX3) pc' hp (by decide) rfl rfl inX3 tyX3_ok nmX3 (by decide) rfl (by decide +kernel) (Nat.le_of_ble_eq_true rfl) rfl rfl hl hd kk
theorem gf_Search_allowed {idx : Nat} (pc' : Nat) (hp : pc + 3 = pc') (hl : Cond.fieldLink own idx "MustardTreaty$Search" "allowed" "I" ∈ lw_tbl) (hd : decode cc pc = .ok (.getfield idx, 3)) (kk : G V E d own cc nL rt pc' lv (.int (nI (h.1 19 3)) :: st) h post) : G V E d own cc nL rt pc lv (rf V 19 :: st) h post := g_get (k := 19) (ci := 3) (j := 3) (T := TX3) (C := RX3) (N := 6) pc' hp (by decide) rfl rfl inX3 (by decide) hl rfl hd kk
theorem gp_Search_allowed {idx n : Nat} (pc' : Nat) (hp : pc + 3 = pc') (hl : Cond.fieldLink own idx "MustardTreaty$Search" "allowed" "I" ∈ lw_tbl) (hd : decode cc pc = .ok (.putfield idx, 3)) (kk : G V E d own cc nL rt pc' lv (st) (sR h 19 (up (h.1 19) 3 n)) post) : G V E d own cc nL rt pc lv (.int (nI n) :: rf V 19 :: st) h post := g_put (k := 19) (ci := 3) (j := 3) (off := 3) (T := TX3) (C := RX3) (N := 6) (ty0 := tyX3) pc' hp (by decide) rfl rfl inX3 tyX3_ok nmX3 (by decide) rfl (by decide +kernel) (Nat.le_of_ble_eq_true rfl) rfl rfl hl hd kk
theorem gf_Search_bestWorth {idx : Nat} (pc' : Nat) (hp : pc + 3 = pc') (hl : Cond.fieldLink own idx "MustardTreaty$Search" "bestWorth" "I" ∈ lw_tbl) (hd : decode cc pc = .ok (.getfield idx, 3)) (kk : G V E d own cc nL rt pc' lv (.int (nI (h.1 19 4)) :: st) h post) : G V E d own cc nL rt pc lv (rf V 19 :: st) h post := g_get (k := 19) (ci := 3) (j := 4) (T := TX3) (C := RX3) (N := 6) pc' hp (by decide) rfl rfl inX3 (by decide) hl rfl hd kk
theorem gp_Search_bestWorth {idx n : Nat} (pc' : Nat) (hp : pc + 3 = pc') (hl : Cond.fieldLink own idx "MustardTreaty$Search" "bestWorth" "I" ∈ lw_tbl) (hd : decode cc pc = .ok (.putfield idx, 3)) (kk : G V E d own cc nL rt pc' lv (st) (sR h 19 (up (h.1 19) 4 n)) post) : G V E d own cc nL rt pc lv (.int (nI n) :: rf V 19 :: st) h post := g_put (k := 19) (ci := 3) (j := 4) (off := 4) (T := TX3) (C := RX3) (N := 6) (ty0 := tyX3) pc' hp (by decide) rfl rfl inX3 tyX3_ok nmX3 (by decide) rfl (by decide +kernel) (Nat.le_of_ble_eq_true rfl) rfl rfl hl hd kk
theorem gf_Search_bestRow {idx : Nat} (pc' : Nat) (hp : pc + 3 = pc') (hl : Cond.fieldLink own idx "MustardTreaty$Search" "bestRow" "I" ∈ lw_tbl) (hd : decode cc pc = .ok (.getfield idx, 3)) (kk : G V E d own cc nL rt pc' lv (.int (nI (h.1 19 5)) :: st) h post) : G V E d own cc nL rt pc lv (rf V 19 :: st) h post := g_get (k := 19) (ci := 3) (j := 5) (T := TX3) (C := RX3) (N := 6) pc' hp (by decide) rfl rfl inX3 (by decide) hl rfl hd kk
theorem gp_Search_bestRow {idx n : Nat} (pc' : Nat) (hp : pc + 3 = pc') (hl : Cond.fieldLink own idx "MustardTreaty$Search" "bestRow" "I" ∈ lw_tbl) (hd : decode cc pc = .ok (.putfield idx, 3)) (kk : G V E d own cc nL rt pc' lv (st) (sR h 19 (up (h.1 19) 5 n)) post) : G V E d own cc nL rt pc lv (.int (nI n) :: rf V 19 :: st) h post := g_put (k := 19) (ci := 3) (j := 5) (off := 5) (T := TX3) (C := RX3) (N := 6) (ty0 := tyX3) pc' hp (by decide) rfl rfl inX3 tyX3_ok nmX3 (by decide) rfl (by decide +kernel) (Nat.le_of_ble_eq_true rfl) rfl rfl hl hd kk
theorem gf_Stops_rules {idx : Nat} (pc' : Nat) (hp : pc + 3 = pc') (hl : Cond.fieldLink own idx "MustardTreaty$Stops" "rules" "LMustardTreaty$Rules;" ∈ lw_tbl) (hd : decode cc pc = .ok (.getfield idx, 3)) (kk : G V E d own cc nL rt pc' lv (rf V 3 :: st) h post) : G V E d own cc nL rt pc lv (rf V 21 :: st) h post := g_get (k := 21) (ci := 6) (j := 0) (T := TX6) (C := RX6) (N := 3) pc' hp (by decide) rfl rfl inX6 (by decide) hl rfl hd kk
theorem gf_Stops_count {idx : Nat} (pc' : Nat) (hp : pc + 3 = pc') (hl : Cond.fieldLink own idx "MustardTreaty$Stops" "count" "I" ∈ lw_tbl) (hd : decode cc pc = .ok (.getfield idx, 3)) (kk : G V E d own cc nL rt pc' lv (.int (nI (h.1 21 1)) :: st) h post) : G V E d own cc nL rt pc lv (rf V 21 :: st) h post := g_get (k := 21) (ci := 6) (j := 1) (T := TX6) (C := RX6) (N := 3) pc' hp (by decide) rfl rfl inX6 (by decide) hl rfl hd kk
theorem gp_Stops_count {idx n : Nat} (pc' : Nat) (hp : pc + 3 = pc') (hl : Cond.fieldLink own idx "MustardTreaty$Stops" "count" "I" ∈ lw_tbl) (hd : decode cc pc = .ok (.putfield idx, 3)) (kk : G V E d own cc nL rt pc' lv (st) (sR h 21 (up (h.1 21) 1 n)) post) : G V E d own cc nL rt pc lv (.int (nI n) :: rf V 21 :: st) h post := g_put (k := 21) (ci := 6) (j := 1) (off := 1) (T := TX6) (C := RX6) (N := 3) (ty0 := tyX6) pc' hp (by decide) rfl rfl inX6 tyX6_ok nmX6 (by decide) rfl (by decide +kernel) (Nat.le_of_ble_eq_true rfl) rfl rfl hl hd kk
theorem gf_Stops_first {idx : Nat} (pc' : Nat) (hp : pc + 3 = pc') (hl : Cond.fieldLink own idx "MustardTreaty$Stops" "first" "I" ∈ lw_tbl) (hd : decode cc pc = .ok (.getfield idx, 3)) (kk : G V E d own cc nL rt pc' lv (.int (nI (h.1 21 2)) :: st) h post) : G V E d own cc nL rt pc lv (rf V 21 :: st) h post := g_get (k := 21) (ci := 6) (j := 2) (T := TX6) (C := RX6) (N := 3) pc' hp (by decide) rfl rfl inX6 (by decide) hl rfl hd kk
theorem gp_Stops_first {idx n : Nat} (pc' : Nat) (hp : pc + 3 = pc') (hl : Cond.fieldLink own idx "MustardTreaty$Stops" "first" "I" ∈ lw_tbl) (hd : decode cc pc = .ok (.putfield idx, 3)) (kk : G V E d own cc nL rt pc' lv (st) (sR h 21 (up (h.1 21) 2 n)) post) : G V E d own cc nL rt pc lv (.int (nI n) :: rf V 21 :: st) h post := g_put (k := 21) (ci := 6) (j := 2) (off := 2) (T := TX6) (C := RX6) (N := 3) (ty0 := tyX6) pc' hp (by decide) rfl rfl inX6 tyX6_ok nmX6 (by decide) rfl (by decide +kernel) (Nat.le_of_ble_eq_true rfl) rfl rfl hl hd kk
theorem gf_Model_thrown {idx : Nat} (pc' : Nat) (hp : pc + 3 = pc') (hl : Cond.fieldLink own idx "MustardTreatyModel" "thrown" "I" ∈ lw_tbl) (hd : decode cc pc = .ok (.getfield idx, 3)) (kk : G V E d own cc nL rt pc' lv (.int (nI (h.1 22 0)) :: st) h post) : G V E d own cc nL rt pc lv (rf V 22 :: st) h post := g_get (k := 22) (ci := 9) (j := 0) (T := TX9) (C := RX9) (N := 30) pc' hp (by decide) rfl rfl inX9 (by decide) hl rfl hd kk
theorem gp_Model_thrown {idx n : Nat} (pc' : Nat) (hp : pc + 3 = pc') (hl : Cond.fieldLink own idx "MustardTreatyModel" "thrown" "I" ∈ lw_tbl) (hd : decode cc pc = .ok (.putfield idx, 3)) (kk : G V E d own cc nL rt pc' lv (st) (sR h 22 (up (h.1 22) 0 n)) post) : G V E d own cc nL rt pc lv (.int (nI n) :: rf V 22 :: st) h post := g_put (k := 22) (ci := 9) (j := 0) (off := 0) (T := TX9) (C := RX9) (N := 30) (ty0 := tyX9) pc' hp (by decide) rfl rfl inX9 tyX9_ok nmX9 (by decide) rfl (by decide +kernel) (Nat.le_of_ble_eq_true rfl) rfl rfl hl hd kk
theorem gf_Model_text {idx : Nat} (pc' : Nat) (hp : pc + 3 = pc') (hl : Cond.fieldLink own idx "MustardTreatyModel" "text" "[I" ∈ lw_tbl) (hd : decode cc pc = .ok (.getfield idx, 3)) (kk : G V E d own cc nL rt pc' lv (rf V 23 :: st) h post) : G V E d own cc nL rt pc lv (rf V 22 :: st) h post := g_get (k := 22) (ci := 9) (j := 1) (T := TX9) (C := RX9) (N := 30) pc' hp (by decide) rfl rfl inX9 (by decide) hl rfl hd kk
theorem gf_Model_textSize {idx : Nat} (pc' : Nat) (hp : pc + 3 = pc') (hl : Cond.fieldLink own idx "MustardTreatyModel" "textSize" "I" ∈ lw_tbl) (hd : decode cc pc = .ok (.getfield idx, 3)) (kk : G V E d own cc nL rt pc' lv (.int (nI (h.1 22 2)) :: st) h post) : G V E d own cc nL rt pc lv (rf V 22 :: st) h post := g_get (k := 22) (ci := 9) (j := 2) (T := TX9) (C := RX9) (N := 30) pc' hp (by decide) rfl rfl inX9 (by decide) hl rfl hd kk
theorem gp_Model_textSize {idx n : Nat} (pc' : Nat) (hp : pc + 3 = pc') (hl : Cond.fieldLink own idx "MustardTreatyModel" "textSize" "I" ∈ lw_tbl) (hd : decode cc pc = .ok (.putfield idx, 3)) (kk : G V E d own cc nL rt pc' lv (st) (sR h 22 (up (h.1 22) 2 n)) post) : G V E d own cc nL rt pc lv (.int (nI n) :: rf V 22 :: st) h post := g_put (k := 22) (ci := 9) (j := 2) (off := 2) (T := TX9) (C := RX9) (N := 30) (ty0 := tyX9) pc' hp (by decide) rfl rfl inX9 tyX9_ok nmX9 (by decide) rfl (by decide +kernel) (Nat.le_of_ble_eq_true rfl) rfl rfl hl hd kk
theorem gf_Model_place {idx : Nat} (pc' : Nat) (hp : pc + 3 = pc') (hl : Cond.fieldLink own idx "MustardTreatyModel" "place" "I" ∈ lw_tbl) (hd : decode cc pc = .ok (.getfield idx, 3)) (kk : G V E d own cc nL rt pc' lv (.int (nI (h.1 22 3)) :: st) h post) : G V E d own cc nL rt pc lv (rf V 22 :: st) h post := g_get (k := 22) (ci := 9) (j := 3) (T := TX9) (C := RX9) (N := 30) pc' hp (by decide) rfl rfl inX9 (by decide) hl rfl hd kk
theorem gp_Model_place {idx n : Nat} (pc' : Nat) (hp : pc + 3 = pc') (hl : Cond.fieldLink own idx "MustardTreatyModel" "place" "I" ∈ lw_tbl) (hd : decode cc pc = .ok (.putfield idx, 3)) (kk : G V E d own cc nL rt pc' lv (st) (sR h 22 (up (h.1 22) 3 n)) post) : G V E d own cc nL rt pc lv (.int (nI n) :: rf V 22 :: st) h post := g_put (k := 22) (ci := 9) (j := 3) (off := 3) (T := TX9) (C := RX9) (N := 30) (ty0 := tyX9) pc' hp (by decide) rfl rfl inX9 tyX9_ok nmX9 (by decide) rfl (by decide +kernel) (Nat.le_of_ble_eq_true rfl) rfl rfl hl hd kk
theorem gf_Model_envoys {idx : Nat} (pc' : Nat) (hp : pc + 3 = pc') (hl : Cond.fieldLink own idx "MustardTreatyModel" "envoys" "I" ∈ lw_tbl) (hd : decode cc pc = .ok (.getfield idx, 3)) (kk : G V E d own cc nL rt pc' lv (.int (nI (h.1 22 4)) :: st) h post) : G V E d own cc nL rt pc lv (rf V 22 :: st) h post := g_get (k := 22) (ci := 9) (j := 4) (T := TX9) (C := RX9) (N := 30) pc' hp (by decide) rfl rfl inX9 (by decide) hl rfl hd kk
theorem gp_Model_envoys {idx n : Nat} (pc' : Nat) (hp : pc + 3 = pc') (hl : Cond.fieldLink own idx "MustardTreatyModel" "envoys" "I" ∈ lw_tbl) (hd : decode cc pc = .ok (.putfield idx, 3)) (kk : G V E d own cc nL rt pc' lv (st) (sR h 22 (up (h.1 22) 4 n)) post) : G V E d own cc nL rt pc lv (.int (nI n) :: rf V 22 :: st) h post := g_put (k := 22) (ci := 9) (j := 4) (off := 4) (T := TX9) (C := RX9) (N := 30) (ty0 := tyX9) pc' hp (by decide) rfl rfl inX9 tyX9_ok nmX9 (by decide) rfl (by decide +kernel) (Nat.le_of_ble_eq_true rfl) rfl rfl hl hd kk
theorem gf_Model_envoy {idx : Nat} (pc' : Nat) (hp : pc + 3 = pc') (hl : Cond.fieldLink own idx "MustardTreatyModel" "envoy" "[I" ∈ lw_tbl) (hd : decode cc pc = .ok (.getfield idx, 3)) (kk : G V E d own cc nL rt pc' lv (rf V 24 :: st) h post) : G V E d own cc nL rt pc lv (rf V 22 :: st) h post := g_get (k := 22) (ci := 9) (j := 5) (T := TX9) (C := RX9) (N := 30) pc' hp (by decide) rfl rfl inX9 (by decide) hl rfl hd kk
theorem gf_Model_clauses {idx : Nat} (pc' : Nat) (hp : pc + 3 = pc') (hl : Cond.fieldLink own idx "MustardTreatyModel" "clauses" "I" ∈ lw_tbl) (hd : decode cc pc = .ok (.getfield idx, 3)) (kk : G V E d own cc nL rt pc' lv (.int (nI (h.1 22 6)) :: st) h post) : G V E d own cc nL rt pc lv (rf V 22 :: st) h post := g_get (k := 22) (ci := 9) (j := 6) (T := TX9) (C := RX9) (N := 30) pc' hp (by decide) rfl rfl inX9 (by decide) hl rfl hd kk
theorem gp_Model_clauses {idx n : Nat} (pc' : Nat) (hp : pc + 3 = pc') (hl : Cond.fieldLink own idx "MustardTreatyModel" "clauses" "I" ∈ lw_tbl) (hd : decode cc pc = .ok (.putfield idx, 3)) (kk : G V E d own cc nL rt pc' lv (st) (sR h 22 (up (h.1 22) 6 n)) post) : G V E d own cc nL rt pc lv (.int (nI n) :: rf V 22 :: st) h post := g_put (k := 22) (ci := 9) (j := 6) (off := 6) (T := TX9) (C := RX9) (N := 30) (ty0 := tyX9) pc' hp (by decide) rfl rfl inX9 tyX9_ok nmX9 (by decide) rfl (by decide +kernel) (Nat.le_of_ble_eq_true rfl) rfl rfl hl hd kk
theorem gf_Model_clause {idx : Nat} (pc' : Nat) (hp : pc + 3 = pc') (hl : Cond.fieldLink own idx "MustardTreatyModel" "clause" "[I" ∈ lw_tbl) (hd : decode cc pc = .ok (.getfield idx, 3)) (kk : G V E d own cc nL rt pc' lv (rf V 25 :: st) h post) : G V E d own cc nL rt pc lv (rf V 22 :: st) h post := g_get (k := 22) (ci := 9) (j := 7) (T := TX9) (C := RX9) (N := 30) pc' hp (by decide) rfl rfl inX9 (by decide) hl rfl hd kk
theorem gf_Model_readHeat {idx : Nat} (pc' : Nat) (hp : pc + 3 = pc') (hl : Cond.fieldLink own idx "MustardTreatyModel" "readHeat" "I" ∈ lw_tbl) (hd : decode cc pc = .ok (.getfield idx, 3)) (kk : G V E d own cc nL rt pc' lv (.int (nI (h.1 22 8)) :: st) h post) : G V E d own cc nL rt pc lv (rf V 22 :: st) h post := g_get (k := 22) (ci := 9) (j := 8) (T := TX9) (C := RX9) (N := 30) pc' hp (by decide) rfl rfl inX9 (by decide) hl rfl hd kk
theorem gp_Model_readHeat {idx n : Nat} (pc' : Nat) (hp : pc + 3 = pc') (hl : Cond.fieldLink own idx "MustardTreatyModel" "readHeat" "I" ∈ lw_tbl) (hd : decode cc pc = .ok (.putfield idx, 3)) (kk : G V E d own cc nL rt pc' lv (st) (sR h 22 (up (h.1 22) 8 n)) post) : G V E d own cc nL rt pc lv (.int (nI n) :: rf V 22 :: st) h post := g_put (k := 22) (ci := 9) (j := 8) (off := 8) (T := TX9) (C := RX9) (N := 30) (ty0 := tyX9) pc' hp (by decide) rfl rfl inX9 tyX9_ok nmX9 (by decide) rfl (by decide +kernel) (Nat.le_of_ble_eq_true rfl) rfl rfl hl hd kk
theorem gf_Model_readSeed {idx : Nat} (pc' : Nat) (hp : pc + 3 = pc') (hl : Cond.fieldLink own idx "MustardTreatyModel" "readSeed" "I" ∈ lw_tbl) (hd : decode cc pc = .ok (.getfield idx, 3)) (kk : G V E d own cc nL rt pc' lv (.int (nI (h.1 22 9)) :: st) h post) : G V E d own cc nL rt pc lv (rf V 22 :: st) h post := g_get (k := 22) (ci := 9) (j := 9) (T := TX9) (C := RX9) (N := 30) pc' hp (by decide) rfl rfl inX9 (by decide) hl rfl hd kk
theorem gp_Model_readSeed {idx n : Nat} (pc' : Nat) (hp : pc + 3 = pc') (hl : Cond.fieldLink own idx "MustardTreatyModel" "readSeed" "I" ∈ lw_tbl) (hd : decode cc pc = .ok (.putfield idx, 3)) (kk : G V E d own cc nL rt pc' lv (st) (sR h 22 (up (h.1 22) 9 n)) post) : G V E d own cc nL rt pc lv (.int (nI n) :: rf V 22 :: st) h post := g_put (k := 22) (ci := 9) (j := 9) (off := 9) (T := TX9) (C := RX9) (N := 30) (ty0 := tyX9) pc' hp (by decide) rfl rfl inX9 tyX9_ok nmX9 (by decide) rfl (by decide +kernel) (Nat.le_of_ble_eq_true rfl) rfl rfl hl hd kk
theorem gf_Model_readEnvoys {idx : Nat} (pc' : Nat) (hp : pc + 3 = pc') (hl : Cond.fieldLink own idx "MustardTreatyModel" "readEnvoys" "I" ∈ lw_tbl) (hd : decode cc pc = .ok (.getfield idx, 3)) (kk : G V E d own cc nL rt pc' lv (.int (nI (h.1 22 10)) :: st) h post) : G V E d own cc nL rt pc lv (rf V 22 :: st) h post := g_get (k := 22) (ci := 9) (j := 10) (T := TX9) (C := RX9) (N := 30) pc' hp (by decide) rfl rfl inX9 (by decide) hl rfl hd kk
theorem gp_Model_readEnvoys {idx n : Nat} (pc' : Nat) (hp : pc + 3 = pc') (hl : Cond.fieldLink own idx "MustardTreatyModel" "readEnvoys" "I" ∈ lw_tbl) (hd : decode cc pc = .ok (.putfield idx, 3)) (kk : G V E d own cc nL rt pc' lv (st) (sR h 22 (up (h.1 22) 10 n)) post) : G V E d own cc nL rt pc lv (.int (nI n) :: rf V 22 :: st) h post := g_put (k := 22) (ci := 9) (j := 10) (off := 10) (T := TX9) (C := RX9) (N := 30) (ty0 := tyX9) pc' hp (by decide) rfl rfl inX9 tyX9_ok nmX9 (by decide) rfl (by decide +kernel) (Nat.le_of_ble_eq_true rfl) rfl rfl hl hd kk
theorem gf_Model_readEnvoy {idx : Nat} (pc' : Nat) (hp : pc + 3 = pc') (hl : Cond.fieldLink own idx "MustardTreatyModel" "readEnvoy" "[I" ∈ lw_tbl) (hd : decode cc pc = .ok (.getfield idx, 3)) (kk : G V E d own cc nL rt pc' lv (rf V 26 :: st) h post) : G V E d own cc nL rt pc lv (rf V 22 :: st) h post := g_get (k := 22) (ci := 9) (j := 11) (T := TX9) (C := RX9) (N := 30) pc' hp (by decide) rfl rfl inX9 (by decide) hl rfl hd kk
theorem gf_Model_readClauses {idx : Nat} (pc' : Nat) (hp : pc + 3 = pc') (hl : Cond.fieldLink own idx "MustardTreatyModel" "readClauses" "I" ∈ lw_tbl) (hd : decode cc pc = .ok (.getfield idx, 3)) (kk : G V E d own cc nL rt pc' lv (.int (nI (h.1 22 12)) :: st) h post) : G V E d own cc nL rt pc lv (rf V 22 :: st) h post := g_get (k := 22) (ci := 9) (j := 12) (T := TX9) (C := RX9) (N := 30) pc' hp (by decide) rfl rfl inX9 (by decide) hl rfl hd kk
theorem gp_Model_readClauses {idx n : Nat} (pc' : Nat) (hp : pc + 3 = pc') (hl : Cond.fieldLink own idx "MustardTreatyModel" "readClauses" "I" ∈ lw_tbl) (hd : decode cc pc = .ok (.putfield idx, 3)) (kk : G V E d own cc nL rt pc' lv (st) (sR h 22 (up (h.1 22) 12 n)) post) : G V E d own cc nL rt pc lv (.int (nI n) :: rf V 22 :: st) h post := g_put (k := 22) (ci := 9) (j := 12) (off := 12) (T := TX9) (C := RX9) (N := 30) (ty0 := tyX9) pc' hp (by decide) rfl rfl inX9 tyX9_ok nmX9 (by decide) rfl (by decide +kernel) (Nat.le_of_ble_eq_true rfl) rfl rfl hl hd kk
theorem gf_Model_readClause {idx : Nat} (pc' : Nat) (hp : pc + 3 = pc') (hl : Cond.fieldLink own idx "MustardTreatyModel" "readClause" "[I" ∈ lw_tbl) (hd : decode cc pc = .ok (.getfield idx, 3)) (kk : G V E d own cc nL rt pc' lv (rf V 27 :: st) h post) : G V E d own cc nL rt pc lv (rf V 22 :: st) h post := g_get (k := 22) (ci := 9) (j := 13) (T := TX9) (C := RX9) (N := 30) pc' hp (by decide) rfl rfl inX9 (by decide) hl rfl hd kk
theorem gf_Model_page {idx : Nat} (pc' : Nat) (hp : pc + 3 = pc') (hl : Cond.fieldLink own idx "MustardTreatyModel" "page" "[I" ∈ lw_tbl) (hd : decode cc pc = .ok (.getfield idx, 3)) (kk : G V E d own cc nL rt pc' lv (rf V 28 :: st) h post) : G V E d own cc nL rt pc lv (rf V 22 :: st) h post := g_get (k := 22) (ci := 9) (j := 14) (T := TX9) (C := RX9) (N := 30) pc' hp (by decide) rfl rfl inX9 (by decide) hl rfl hd kk
theorem gf_Model_trial {idx : Nat} (pc' : Nat) (hp : pc + 3 = pc') (hl : Cond.fieldLink own idx "MustardTreatyModel" "trial" "[I" ∈ lw_tbl) (hd : decode cc pc = .ok (.getfield idx, 3)) (kk : G V E d own cc nL rt pc' lv (rf V 29 :: st) h post) : G V E d own cc nL rt pc lv (rf V 22 :: st) h post := g_get (k := 22) (ci := 9) (j := 15) (T := TX9) (C := RX9) (N := 30) pc' hp (by decide) rfl rfl inX9 (by decide) hl rfl hd kk
theorem gf_Model_book {idx : Nat} (pc' : Nat) (hp : pc + 3 = pc') (hl : Cond.fieldLink own idx "MustardTreatyModel" "book" "[I" ∈ lw_tbl) (hd : decode cc pc = .ok (.getfield idx, 3)) (kk : G V E d own cc nL rt pc' lv (rf V 30 :: st) h post) : G V E d own cc nL rt pc lv (rf V 22 :: st) h post := g_get (k := 22) (ci := 9) (j := 16) (T := TX9) (C := RX9) (N := 30) pc' hp (by decide) rfl rfl inX9 (by decide) hl rfl hd kk
theorem gf_Model_acts {idx : Nat} (pc' : Nat) (hp : pc + 3 = pc') (hl : Cond.fieldLink own idx "MustardTreatyModel" "acts" "I" ∈ lw_tbl) (hd : decode cc pc = .ok (.getfield idx, 3)) (kk : G V E d own cc nL rt pc' lv (.int (nI (h.1 22 17)) :: st) h post) : G V E d own cc nL rt pc lv (rf V 22 :: st) h post := g_get (k := 22) (ci := 9) (j := 17) (T := TX9) (C := RX9) (N := 30) pc' hp (by decide) rfl rfl inX9 (by decide) hl rfl hd kk
theorem gp_Model_acts {idx n : Nat} (pc' : Nat) (hp : pc + 3 = pc') (hl : Cond.fieldLink own idx "MustardTreatyModel" "acts" "I" ∈ lw_tbl) (hd : decode cc pc = .ok (.putfield idx, 3)) (kk : G V E d own cc nL rt pc' lv (st) (sR h 22 (up (h.1 22) 17 n)) post) : G V E d own cc nL rt pc lv (.int (nI n) :: rf V 22 :: st) h post := g_put (k := 22) (ci := 9) (j := 17) (off := 17) (T := TX9) (C := RX9) (N := 30) (ty0 := tyX9) pc' hp (by decide) rfl rfl inX9 tyX9_ok nmX9 (by decide) rfl (by decide +kernel) (Nat.le_of_ble_eq_true rfl) rfl rfl hl hd kk
theorem gf_Model_kept {idx : Nat} (pc' : Nat) (hp : pc + 3 = pc') (hl : Cond.fieldLink own idx "MustardTreatyModel" "kept" "[I" ∈ lw_tbl) (hd : decode cc pc = .ok (.getfield idx, 3)) (kk : G V E d own cc nL rt pc' lv (rf V 31 :: st) h post) : G V E d own cc nL rt pc lv (rf V 22 :: st) h post := g_get (k := 22) (ci := 9) (j := 18) (T := TX9) (C := RX9) (N := 30) pc' hp (by decide) rfl rfl inX9 (by decide) hl rfl hd kk
theorem gf_Model_isKept {idx : Nat} (pc' : Nat) (hp : pc + 3 = pc') (hl : Cond.fieldLink own idx "MustardTreatyModel" "isKept" "[Z" ∈ lw_tbl) (hd : decode cc pc = .ok (.getfield idx, 3)) (kk : G V E d own cc nL rt pc' lv (rf V 32 :: st) h post) : G V E d own cc nL rt pc lv (rf V 22 :: st) h post := g_get (k := 22) (ci := 9) (j := 19) (T := TX9) (C := RX9) (N := 30) pc' hp (by decide) rfl rfl inX9 (by decide) hl rfl hd kk
theorem gf_Model_seen {idx : Nat} (pc' : Nat) (hp : pc + 3 = pc') (hl : Cond.fieldLink own idx "MustardTreatyModel" "seen" "I" ∈ lw_tbl) (hd : decode cc pc = .ok (.getfield idx, 3)) (kk : G V E d own cc nL rt pc' lv (.int (nI (h.1 22 20)) :: st) h post) : G V E d own cc nL rt pc lv (rf V 22 :: st) h post := g_get (k := 22) (ci := 9) (j := 20) (T := TX9) (C := RX9) (N := 30) pc' hp (by decide) rfl rfl inX9 (by decide) hl rfl hd kk
theorem gp_Model_seen {idx n : Nat} (pc' : Nat) (hp : pc + 3 = pc') (hl : Cond.fieldLink own idx "MustardTreatyModel" "seen" "I" ∈ lw_tbl) (hd : decode cc pc = .ok (.putfield idx, 3)) (kk : G V E d own cc nL rt pc' lv (st) (sR h 22 (up (h.1 22) 20 n)) post) : G V E d own cc nL rt pc lv (.int (nI n) :: rf V 22 :: st) h post := g_put (k := 22) (ci := 9) (j := 20) (off := 20) (T := TX9) (C := RX9) (N := 30) (ty0 := tyX9) pc' hp (by decide) rfl rfl inX9 tyX9_ok nmX9 (by decide) rfl (by decide +kernel) (Nat.le_of_ble_eq_true rfl) rfl rfl hl hd kk
theorem gf_Model_seenKind {idx : Nat} (pc' : Nat) (hp : pc + 3 = pc') (hl : Cond.fieldLink own idx "MustardTreatyModel" "seenKind" "[I" ∈ lw_tbl) (hd : decode cc pc = .ok (.getfield idx, 3)) (kk : G V E d own cc nL rt pc' lv (rf V 33 :: st) h post) : G V E d own cc nL rt pc lv (rf V 22 :: st) h post := g_get (k := 22) (ci := 9) (j := 21) (T := TX9) (C := RX9) (N := 30) pc' hp (by decide) rfl rfl inX9 (by decide) hl rfl hd kk
theorem gf_Model_seenHeat {idx : Nat} (pc' : Nat) (hp : pc + 3 = pc') (hl : Cond.fieldLink own idx "MustardTreatyModel" "seenHeat" "[I" ∈ lw_tbl) (hd : decode cc pc = .ok (.getfield idx, 3)) (kk : G V E d own cc nL rt pc' lv (rf V 34 :: st) h post) : G V E d own cc nL rt pc lv (rf V 22 :: st) h post := g_get (k := 22) (ci := 9) (j := 22) (T := TX9) (C := RX9) (N := 30) pc' hp (by decide) rfl rfl inX9 (by decide) hl rfl hd kk
theorem gf_Model_seenTears {idx : Nat} (pc' : Nat) (hp : pc + 3 = pc') (hl : Cond.fieldLink own idx "MustardTreatyModel" "seenTears" "[I" ∈ lw_tbl) (hd : decode cc pc = .ok (.getfield idx, 3)) (kk : G V E d own cc nL rt pc' lv (rf V 35 :: st) h post) : G V E d own cc nL rt pc lv (rf V 22 :: st) h post := g_get (k := 22) (ci := 9) (j := 23) (T := TX9) (C := RX9) (N := 30) pc' hp (by decide) rfl rfl inX9 (by decide) hl rfl hd kk
theorem gf_Model_seed {idx : Nat} (pc' : Nat) (hp : pc + 3 = pc') (hl : Cond.fieldLink own idx "MustardTreatyModel" "seed" "J" ∈ lw_tbl) (hd : decode cc pc = .ok (.getfield idx, 3)) (kk : G V E d own cc nL rt pc' lv (.long (h.2 1) :: st) h post) : G V E d own cc nL rt pc lv (rf V 22 :: st) h post := g_get (k := 22) (ci := 9) (j := 24) (T := TX9) (C := RX9) (N := 30) pc' hp (by decide) rfl rfl inX9 (by decide) hl rfl hd kk
theorem wd_sL1 (V : Vt) (h : Hp) (x : Int64) : (wd V h).set 22 (V.2.2.2.1 22, .inr (9, [.int (nI (h.1 22 0)), rf V 23, .int (nI (h.1 22 2)), .int (nI (h.1 22 3)), .int (nI (h.1 22 4)), rf V 24, .int (nI (h.1 22 6)), rf V 25, .int (nI (h.1 22 8)), .int (nI (h.1 22 9)), .int (nI (h.1 22 10)), rf V 26, .int (nI (h.1 22 12)), rf V 27, rf V 28, rf V 29, rf V 30, .int (nI (h.1 22 17)), rf V 31, rf V 32, .int (nI (h.1 22 20)), rf V 33, rf V 34, rf V 35, .long x, .int (nI (h.1 22 25)), .int (nI (h.1 22 26)), .int (nI (h.1 22 27)), .int (nI (h.1 22 28)), rf V 36])) = wd V (sL h 1 x) := by
  refine wd_set V (by decide) rfl ?_
  intro i hi hik
  exact cl_z1 V hik
theorem gp_Model_seed {idx : Nat} {x : Int64} (pc' : Nat) (hp : pc + 3 = pc') (hl : Cond.fieldLink own idx "MustardTreatyModel" "seed" "J" ∈ lw_tbl) (hd : decode cc pc = .ok (.putfield idx, 3)) (kk : G V E d own cc nL rt pc' lv (st) (sL h 1 x) post) : G V E d own cc nL rt pc lv (.long x :: rf V 22 :: st) h post := g_putl (k := 22) (ci := 9) (j := 24) (i := 1) (T := TX9) (C := RX9) (N := 30) (ty0 := tyX9) pc' hp (by decide) rfl rfl inX9 tyX9_ok nmX9 (by decide) rfl (by decide +kernel) (Nat.le_of_ble_eq_true rfl) (wd_sL1 V h x) hl hd kk
theorem gf_Model_bestWorth {idx : Nat} (pc' : Nat) (hp : pc + 3 = pc') (hl : Cond.fieldLink own idx "MustardTreatyModel" "bestWorth" "I" ∈ lw_tbl) (hd : decode cc pc = .ok (.getfield idx, 3)) (kk : G V E d own cc nL rt pc' lv (.int (nI (h.1 22 25)) :: st) h post) : G V E d own cc nL rt pc lv (rf V 22 :: st) h post := g_get (k := 22) (ci := 9) (j := 25) (T := TX9) (C := RX9) (N := 30) pc' hp (by decide) rfl rfl inX9 (by decide) hl rfl hd kk
theorem gp_Model_bestWorth {idx n : Nat} (pc' : Nat) (hp : pc + 3 = pc') (hl : Cond.fieldLink own idx "MustardTreatyModel" "bestWorth" "I" ∈ lw_tbl) (hd : decode cc pc = .ok (.putfield idx, 3)) (kk : G V E d own cc nL rt pc' lv (st) (sR h 22 (up (h.1 22) 25 n)) post) : G V E d own cc nL rt pc lv (.int (nI n) :: rf V 22 :: st) h post := g_put (k := 22) (ci := 9) (j := 25) (off := 25) (T := TX9) (C := RX9) (N := 30) (ty0 := tyX9) pc' hp (by decide) rfl rfl inX9 tyX9_ok nmX9 (by decide) rfl (by decide +kernel) (Nat.le_of_ble_eq_true rfl) rfl rfl hl hd kk
theorem gf_Model_bestRow {idx : Nat} (pc' : Nat) (hp : pc + 3 = pc') (hl : Cond.fieldLink own idx "MustardTreatyModel" "bestRow" "I" ∈ lw_tbl) (hd : decode cc pc = .ok (.getfield idx, 3)) (kk : G V E d own cc nL rt pc' lv (.int (nI (h.1 22 26)) :: st) h post) : G V E d own cc nL rt pc lv (rf V 22 :: st) h post := g_get (k := 22) (ci := 9) (j := 26) (T := TX9) (C := RX9) (N := 30) pc' hp (by decide) rfl rfl inX9 (by decide) hl rfl hd kk
theorem gp_Model_bestRow {idx n : Nat} (pc' : Nat) (hp : pc + 3 = pc') (hl : Cond.fieldLink own idx "MustardTreatyModel" "bestRow" "I" ∈ lw_tbl) (hd : decode cc pc = .ok (.putfield idx, 3)) (kk : G V E d own cc nL rt pc' lv (st) (sR h 22 (up (h.1 22) 26 n)) post) : G V E d own cc nL rt pc lv (.int (nI n) :: rf V 22 :: st) h post := g_put (k := 22) (ci := 9) (j := 26) (off := 26) (T := TX9) (C := RX9) (N := 30) (ty0 := tyX9) pc' hp (by decide) rfl rfl inX9 tyX9_ok nmX9 (by decide) rfl (by decide +kernel) (Nat.le_of_ble_eq_true rfl) rfl rfl hl hd kk
theorem gf_Model_restMany {idx : Nat} (pc' : Nat) (hp : pc + 3 = pc') (hl : Cond.fieldLink own idx "MustardTreatyModel" "restMany" "I" ∈ lw_tbl) (hd : decode cc pc = .ok (.getfield idx, 3)) (kk : G V E d own cc nL rt pc' lv (.int (nI (h.1 22 27)) :: st) h post) : G V E d own cc nL rt pc lv (rf V 22 :: st) h post := g_get (k := 22) (ci := 9) (j := 27) (T := TX9) (C := RX9) (N := 30) pc' hp (by decide) rfl rfl inX9 (by decide) hl rfl hd kk
theorem gp_Model_restMany {idx n : Nat} (pc' : Nat) (hp : pc + 3 = pc') (hl : Cond.fieldLink own idx "MustardTreatyModel" "restMany" "I" ∈ lw_tbl) (hd : decode cc pc = .ok (.putfield idx, 3)) (kk : G V E d own cc nL rt pc' lv (st) (sR h 22 (up (h.1 22) 27 n)) post) : G V E d own cc nL rt pc lv (.int (nI n) :: rf V 22 :: st) h post := g_put (k := 22) (ci := 9) (j := 27) (off := 27) (T := TX9) (C := RX9) (N := 30) (ty0 := tyX9) pc' hp (by decide) rfl rfl inX9 tyX9_ok nmX9 (by decide) rfl (by decide +kernel) (Nat.le_of_ble_eq_true rfl) rfl rfl hl hd kk
theorem gf_Model_restFirst {idx : Nat} (pc' : Nat) (hp : pc + 3 = pc') (hl : Cond.fieldLink own idx "MustardTreatyModel" "restFirst" "I" ∈ lw_tbl) (hd : decode cc pc = .ok (.getfield idx, 3)) (kk : G V E d own cc nL rt pc' lv (.int (nI (h.1 22 28)) :: st) h post) : G V E d own cc nL rt pc lv (rf V 22 :: st) h post := g_get (k := 22) (ci := 9) (j := 28) (T := TX9) (C := RX9) (N := 30) pc' hp (by decide) rfl rfl inX9 (by decide) hl rfl hd kk
theorem gp_Model_restFirst {idx n : Nat} (pc' : Nat) (hp : pc + 3 = pc') (hl : Cond.fieldLink own idx "MustardTreatyModel" "restFirst" "I" ∈ lw_tbl) (hd : decode cc pc = .ok (.putfield idx, 3)) (kk : G V E d own cc nL rt pc' lv (st) (sR h 22 (up (h.1 22) 28 n)) post) : G V E d own cc nL rt pc lv (.int (nI n) :: rf V 22 :: st) h post := g_put (k := 22) (ci := 9) (j := 28) (off := 28) (T := TX9) (C := RX9) (N := 30) (ty0 := tyX9) pc' hp (by decide) rfl rfl inX9 tyX9_ok nmX9 (by decide) rfl (by decide +kernel) (Nat.le_of_ble_eq_true rfl) rfl rfl hl hd kk
theorem gf_Model_value {idx : Nat} (pc' : Nat) (hp : pc + 3 = pc') (hl : Cond.fieldLink own idx "MustardTreatyModel" "value" "[I" ∈ lw_tbl) (hd : decode cc pc = .ok (.getfield idx, 3)) (kk : G V E d own cc nL rt pc' lv (rf V 36 :: st) h post) : G V E d own cc nL rt pc lv (rf V 22 :: st) h post := g_get (k := 22) (ci := 9) (j := 29) (T := TX9) (C := RX9) (N := 30) pc' hp (by decide) rfl rfl inX9 (by decide) hl rfl hd kk
theorem hc_tb (V : Vt) (h : Hp) (i : Nat) : cl V h.2 (tb i) (h.1 (rw (tb i))) = .inr (7, [rf V 3, .int (nI (h.1 (tr i) 0)), .int (nI (h.1 (tr i) 1)), .int (nI (h.1 (tr i) 6)), .int (nI (h.1 (tr i) 7)), .int (nI (h.1 (tr i) 8)), .int (nI (h.1 (tr i) 9)), rf V (tb i + 1)]) := by
  rw [rw_tb, cl_tb]
theorem gf_Table_rules {i idx : Nat} (pc' : Nat) (hp : pc + 3 = pc') (hi : i < 24) (hl : Cond.fieldLink own idx "MustardTreaty$Table" "rules" "LMustardTreaty$Rules;" ∈ lw_tbl) (hd : decode cc pc = .ok (.getfield idx, 3)) (kk : G V E d own cc nL rt pc' lv (rf V 3 :: st) h post) : G V E d own cc nL rt pc lv (rf V (tb i) :: st) h post := g_get (k := tb i) (ci := 7) (j := 0) (T := TX7) (C := RX7) (N := 8) pc' hp (by unfold tb; omega) (hc_tb V h i) rfl inX7 (by decide) hl rfl hd kk
theorem gf_Table_heat {i idx : Nat} (pc' : Nat) (hp : pc + 3 = pc') (hi : i < 24) (hl : Cond.fieldLink own idx "MustardTreaty$Table" "heat" "I" ∈ lw_tbl) (hd : decode cc pc = .ok (.getfield idx, 3)) (kk : G V E d own cc nL rt pc' lv (.int (nI (h.1 (tr i) 0)) :: st) h post) : G V E d own cc nL rt pc lv (rf V (tb i) :: st) h post := g_get (k := tb i) (ci := 7) (j := 1) (T := TX7) (C := RX7) (N := 8) pc' hp (by unfold tb; omega) (hc_tb V h i) rfl inX7 (by decide) hl rfl hd kk
theorem gp_Table_heat {i idx n : Nat} (pc' : Nat) (hp : pc + 3 = pc') (hi : i < 24) (hl : Cond.fieldLink own idx "MustardTreaty$Table" "heat" "I" ∈ lw_tbl) (hd : decode cc pc = .ok (.putfield idx, 3)) (kk : G V E d own cc nL rt pc' lv (st) (sR h (tr i) (up (h.1 (tr i)) 0 n)) post) : G V E d own cc nL rt pc lv (.int (nI n) :: rf V (tb i) :: st) h post := by
  refine g_put (k := tb i) (ci := 7) (j := 1) (off := 0) (T := TX7) (C := RX7) (N := 8) (ty0 := tyX7) pc' hp (by unfold tb; omega) (hc_tb V h i) rfl inX7 tyX7_ok nmX7 (by decide) rfl (by decide +kernel) (Nat.le_of_ble_eq_true rfl) (by rw [rw_tb]; exact ow_tb (by omega)) ?_ hl hd (by rw [rw_tb]; exact kk)
  rw [rw_tb, cl_tb]
  rfl
theorem gf_Table_store {i idx : Nat} (pc' : Nat) (hp : pc + 3 = pc') (hi : i < 24) (hl : Cond.fieldLink own idx "MustardTreaty$Table" "store" "I" ∈ lw_tbl) (hd : decode cc pc = .ok (.getfield idx, 3)) (kk : G V E d own cc nL rt pc' lv (.int (nI (h.1 (tr i) 1)) :: st) h post) : G V E d own cc nL rt pc lv (rf V (tb i) :: st) h post := g_get (k := tb i) (ci := 7) (j := 2) (T := TX7) (C := RX7) (N := 8) pc' hp (by unfold tb; omega) (hc_tb V h i) rfl inX7 (by decide) hl rfl hd kk
theorem gp_Table_store {i idx n : Nat} (pc' : Nat) (hp : pc + 3 = pc') (hi : i < 24) (hl : Cond.fieldLink own idx "MustardTreaty$Table" "store" "I" ∈ lw_tbl) (hd : decode cc pc = .ok (.putfield idx, 3)) (kk : G V E d own cc nL rt pc' lv (st) (sR h (tr i) (up (h.1 (tr i)) 1 n)) post) : G V E d own cc nL rt pc lv (.int (nI n) :: rf V (tb i) :: st) h post := by
  refine g_put (k := tb i) (ci := 7) (j := 2) (off := 1) (T := TX7) (C := RX7) (N := 8) (ty0 := tyX7) pc' hp (by unfold tb; omega) (hc_tb V h i) rfl inX7 tyX7_ok nmX7 (by decide) rfl (by decide +kernel) (Nat.le_of_ble_eq_true rfl) (by rw [rw_tb]; exact ow_tb (by omega)) ?_ hl hd (by rw [rw_tb]; exact kk)
  rw [rw_tb, cl_tb]
  rfl
theorem gf_Table_eating {i idx : Nat} (pc' : Nat) (hp : pc + 3 = pc') (hi : i < 24) (hl : Cond.fieldLink own idx "MustardTreaty$Table" "eating" "I" ∈ lw_tbl) (hd : decode cc pc = .ok (.getfield idx, 3)) (kk : G V E d own cc nL rt pc' lv (.int (nI (h.1 (tr i) 6)) :: st) h post) : G V E d own cc nL rt pc lv (rf V (tb i) :: st) h post := g_get (k := tb i) (ci := 7) (j := 3) (T := TX7) (C := RX7) (N := 8) pc' hp (by unfold tb; omega) (hc_tb V h i) rfl inX7 (by decide) hl rfl hd kk
theorem gp_Table_eating {i idx n : Nat} (pc' : Nat) (hp : pc + 3 = pc') (hi : i < 24) (hl : Cond.fieldLink own idx "MustardTreaty$Table" "eating" "I" ∈ lw_tbl) (hd : decode cc pc = .ok (.putfield idx, 3)) (kk : G V E d own cc nL rt pc' lv (st) (sR h (tr i) (up (h.1 (tr i)) 6 n)) post) : G V E d own cc nL rt pc lv (.int (nI n) :: rf V (tb i) :: st) h post := by
  refine g_put (k := tb i) (ci := 7) (j := 3) (off := 6) (T := TX7) (C := RX7) (N := 8) (ty0 := tyX7) pc' hp (by unfold tb; omega) (hc_tb V h i) rfl inX7 tyX7_ok nmX7 (by decide) rfl (by decide +kernel) (Nat.le_of_ble_eq_true rfl) (by rw [rw_tb]; exact ow_tb (by omega)) ?_ hl hd (by rw [rw_tb]; exact kk)
  rw [rw_tb, cl_tb]
  rfl
theorem gf_Table_fed {i idx : Nat} (pc' : Nat) (hp : pc + 3 = pc') (hi : i < 24) (hl : Cond.fieldLink own idx "MustardTreaty$Table" "fed" "I" ∈ lw_tbl) (hd : decode cc pc = .ok (.getfield idx, 3)) (kk : G V E d own cc nL rt pc' lv (.int (nI (h.1 (tr i) 7)) :: st) h post) : G V E d own cc nL rt pc lv (rf V (tb i) :: st) h post := g_get (k := tb i) (ci := 7) (j := 4) (T := TX7) (C := RX7) (N := 8) pc' hp (by unfold tb; omega) (hc_tb V h i) rfl inX7 (by decide) hl rfl hd kk
theorem gp_Table_fed {i idx n : Nat} (pc' : Nat) (hp : pc + 3 = pc') (hi : i < 24) (hl : Cond.fieldLink own idx "MustardTreaty$Table" "fed" "I" ∈ lw_tbl) (hd : decode cc pc = .ok (.putfield idx, 3)) (kk : G V E d own cc nL rt pc' lv (st) (sR h (tr i) (up (h.1 (tr i)) 7 n)) post) : G V E d own cc nL rt pc lv (.int (nI n) :: rf V (tb i) :: st) h post := by
  refine g_put (k := tb i) (ci := 7) (j := 4) (off := 7) (T := TX7) (C := RX7) (N := 8) (ty0 := tyX7) pc' hp (by unfold tb; omega) (hc_tb V h i) rfl inX7 tyX7_ok nmX7 (by decide) rfl (by decide +kernel) (Nat.le_of_ble_eq_true rfl) (by rw [rw_tb]; exact ow_tb (by omega)) ?_ hl hd (by rw [rw_tb]; exact kk)
  rw [rw_tb, cl_tb]
  rfl
theorem gf_Table_bound {i idx : Nat} (pc' : Nat) (hp : pc + 3 = pc') (hi : i < 24) (hl : Cond.fieldLink own idx "MustardTreaty$Table" "bound" "I" ∈ lw_tbl) (hd : decode cc pc = .ok (.getfield idx, 3)) (kk : G V E d own cc nL rt pc' lv (.int (nI (h.1 (tr i) 8)) :: st) h post) : G V E d own cc nL rt pc lv (rf V (tb i) :: st) h post := g_get (k := tb i) (ci := 7) (j := 5) (T := TX7) (C := RX7) (N := 8) pc' hp (by unfold tb; omega) (hc_tb V h i) rfl inX7 (by decide) hl rfl hd kk
theorem gp_Table_bound {i idx n : Nat} (pc' : Nat) (hp : pc + 3 = pc') (hi : i < 24) (hl : Cond.fieldLink own idx "MustardTreaty$Table" "bound" "I" ∈ lw_tbl) (hd : decode cc pc = .ok (.putfield idx, 3)) (kk : G V E d own cc nL rt pc' lv (st) (sR h (tr i) (up (h.1 (tr i)) 8 n)) post) : G V E d own cc nL rt pc lv (.int (nI n) :: rf V (tb i) :: st) h post := by
  refine g_put (k := tb i) (ci := 7) (j := 5) (off := 8) (T := TX7) (C := RX7) (N := 8) (ty0 := tyX7) pc' hp (by unfold tb; omega) (hc_tb V h i) rfl inX7 tyX7_ok nmX7 (by decide) rfl (by decide +kernel) (Nat.le_of_ble_eq_true rfl) (by rw [rw_tb]; exact ow_tb (by omega)) ?_ hl hd (by rw [rw_tb]; exact kk)
  rw [rw_tb, cl_tb]
  rfl
theorem gf_Table_bites {i idx : Nat} (pc' : Nat) (hp : pc + 3 = pc') (hi : i < 24) (hl : Cond.fieldLink own idx "MustardTreaty$Table" "bites" "I" ∈ lw_tbl) (hd : decode cc pc = .ok (.getfield idx, 3)) (kk : G V E d own cc nL rt pc' lv (.int (nI (h.1 (tr i) 9)) :: st) h post) : G V E d own cc nL rt pc lv (rf V (tb i) :: st) h post := g_get (k := tb i) (ci := 7) (j := 6) (T := TX7) (C := RX7) (N := 8) pc' hp (by unfold tb; omega) (hc_tb V h i) rfl inX7 (by decide) hl rfl hd kk
theorem gp_Table_bites {i idx n : Nat} (pc' : Nat) (hp : pc + 3 = pc') (hi : i < 24) (hl : Cond.fieldLink own idx "MustardTreaty$Table" "bites" "I" ∈ lw_tbl) (hd : decode cc pc = .ok (.putfield idx, 3)) (kk : G V E d own cc nL rt pc' lv (st) (sR h (tr i) (up (h.1 (tr i)) 9 n)) post) : G V E d own cc nL rt pc lv (.int (nI n) :: rf V (tb i) :: st) h post := by
  refine g_put (k := tb i) (ci := 7) (j := 6) (off := 9) (T := TX7) (C := RX7) (N := 8) (ty0 := tyX7) pc' hp (by unfold tb; omega) (hc_tb V h i) rfl inX7 tyX7_ok nmX7 (by decide) rfl (by decide +kernel) (Nat.le_of_ble_eq_true rfl) (by rw [rw_tb]; exact ow_tb (by omega)) ?_ hl hd (by rw [rw_tb]; exact kk)
  rw [rw_tb, cl_tb]
  rfl
theorem gf_Table_tears {i idx : Nat} (pc' : Nat) (hp : pc + 3 = pc') (hi : i < 24) (hl : Cond.fieldLink own idx "MustardTreaty$Table" "tears" "[I" ∈ lw_tbl) (hd : decode cc pc = .ok (.getfield idx, 3)) (kk : G V E d own cc nL rt pc' lv (rf V (tb i + 1) :: st) h post) : G V E d own cc nL rt pc lv (rf V (tb i) :: st) h post := g_get (k := tb i) (ci := 7) (j := 7) (T := TX7) (C := RX7) (N := 8) pc' hp (by unfold tb; omega) (hc_tb V h i) rfl inX7 (by decide) hl rfl hd kk
theorem g_iald {k n j : Nat} {f : Nat → Nat} (pc' : Nat) (hp : pc + 1 = pc') (hk : k < 85) (hc0 : cl V h.2 k (h.1 (rw k)) = ai V n f) (hj : j < n) (hn : n < 2 ^ 31) (hd : decode cc pc = .ok (.iaload, 1)) (kk : G V E d own cc nL rt pc' lv (.int (nI (f j)) :: st) h post) : G V E d own cc nL rt pc lv (.int (nI j) :: rf V k :: st) h post := by
  subst hp
  intro p e s m args below meth c R H locs ls cells slots Q C X hP hS hl hc
  have he := wd_at V h hk
  rw [hc0] at he
  refine va_iald (D := V.2.1) (cl := vwCl) C.1 C.2.1 C.2.2.2.2.2.2.2.1 hP k 0 he rfl (vp_in_nI hj hn) hd ?_
  rw [nI_clamp (by omega)]
  exact kk p e s m args below meth c R H locs ls cells slots Q C X hP hS hl hc
theorem g_zald {k n j : Nat} {f : Nat → Nat} (pc' : Nat) (hp : pc + 1 = pc') (hk : k < 85) (hc0 : cl V h.2 k (h.1 (rw k)) = az V n f) (hj : j < n) (hn : n < 2 ^ 31) (hd : decode cc pc = .ok (.baload, 1)) (kk : G V E d own cc nL rt pc' lv (.int (nI (f j)) :: st) h post) : G V E d own cc nL rt pc lv (.int (nI j) :: rf V k :: st) h post := by
  subst hp
  intro p e s m args below meth c R H locs ls cells slots Q C X hP hS hl hc
  have he := wd_at V h hk
  rw [hc0] at he
  refine va_zald (D := V.2.1) (cl := vwCl) C.1 C.2.1 C.2.2.2.2.2.2.2.1 hP k 1 he rfl (vp_in_nI hj hn) hd ?_
  rw [nI_clamp (by omega)]
  exact kk p e s m args below meth c R H locs ls cells slots Q C X hP hS hl hc
theorem g_aald {k n j : Nat} {f : Nat → Nat} (pc' : Nat) (hp : pc + 1 = pc') (hk : k < 85) (hc0 : cl V h.2 k (h.1 (rw k)) = aT V n f) (hj : j < n) (hn : n < 2 ^ 31) (hd : decode cc pc = .ok (.aaload, 1)) (kk : G V E d own cc nL rt pc' lv (rf V (f j) :: st) h post) : G V E d own cc nL rt pc lv (.int (nI j) :: rf V k :: st) h post := by
  subst hp
  intro p e s m args below meth c R H locs ls cells slots Q C X hP hS hl hc
  have he := wd_at V h hk
  rw [hc0] at he
  refine va_aldq (D := V.2.1) (cl := vwCl) (C := RX7) C.1 C.2.1 C.2.2.2.2.2.2.2.1 hP k 2 he rfl (vp_in_nI hj hn) hd ?_
  rw [nI_clamp (by omega)]
  exact kk p e s m args below meth c R H locs ls cells slots Q C X hP hS hl hc
theorem g_iast {k n j v off : Nat} {f f' : Nat → Nat} (pc' : Nat) (hp : pc + 1 = pc') (hk : k < 85) (hc0 : cl V h.2 k (h.1 (rw k)) = ai V n f) (hj : j < n) (hn : n < 2 ^ 31) (ho : ow (rw k) off = k) (he : cl V h.2 k (up (h.1 (rw k)) off v) = ai V n f') (hf : ∀ i, nI (f' i) = if i = j then nI v else nI (f i)) (hd : decode cc pc = .ok (.iastore, 1)) (kk : G V E d own cc nL rt pc' lv (st) (sR h (rw k) (up (h.1 (rw k)) off v)) post) : G V E d own cc nL rt pc lv (.int (nI v) :: .int (nI j) :: rf V k :: st) h post := by
  subst hp
  intro p e s m args below meth c R H locs ls cells slots Q C X hP hS hl hc
  have he0 := wd_at V h hk
  rw [hc0] at he0
  refine va_iast (D := V.2.1) (cl := vwCl) C.1 C.2.1 C.2.2.2.2.2.2.2.1 hP (C.2.2.2.2.2.2.2.2.1 h) hS k 0 he0 rfl (vp_in_nI hj hn) hd (fun H1 locs1 hP1 hD1 hS1 => ?_)
  rw [nI_clamp (by omega)] at hP1
  rw [show (upd (fun j => nI (f j)) j (nI v)) = fun i => nI (f' i) from funext fun i => ((hf i).symm)] at hP1
  have hP1 : va_P V.2.1 vwCl ((wd V h).set k (V.2.2.2.1 k, ai V n f')) H1 := hP1
  rw [wd_put V h hk ho he] at hP1
  exact kk p e s m args below meth c R H1 locs1 ls cells slots Q C X hP1 hS1 hl hc
theorem g_zast {k n j v off : Nat} {f f' : Nat → Nat} (pc' : Nat) (hp : pc + 1 = pc') (hk : k < 85) (hc0 : cl V h.2 k (h.1 (rw k)) = az V n f) (hj : j < n) (hn : n < 2 ^ 31) (ho : ow (rw k) off = k) (he : cl V h.2 k (up (h.1 (rw k)) off v) = az V n f') (hf : ∀ i, nI (f' i) = if i = j then vp_nar .boolean (nI v) else nI (f i)) (hd : decode cc pc = .ok (.bastore, 1)) (kk : G V E d own cc nL rt pc' lv (st) (sR h (rw k) (up (h.1 (rw k)) off v)) post) : G V E d own cc nL rt pc lv (.int (nI v) :: .int (nI j) :: rf V k :: st) h post := by
  subst hp
  intro p e s m args below meth c R H locs ls cells slots Q C X hP hS hl hc
  have he0 := wd_at V h hk
  rw [hc0] at he0
  refine va_zast (D := V.2.1) (cl := vwCl) C.1 C.2.1 C.2.2.2.2.2.2.2.1 hP (C.2.2.2.2.2.2.2.2.1 h) hS k 1 he0 rfl (vp_in_nI hj hn) hd (fun H1 locs1 hP1 hD1 hS1 => ?_)
  rw [nI_clamp (by omega)] at hP1
  rw [show (upd (fun j => nI (f j)) j (vp_nar .boolean (nI v))) = fun i => nI (f' i) from funext fun i => ((hf i).symm)] at hP1
  have hP1 : va_P V.2.1 vwCl ((wd V h).set k (V.2.2.2.1 k, az V n f')) H1 := hP1
  rw [wd_put V h hk ho he] at hP1
  exact kk p e s m args below meth c R H1 locs1 ls cells slots Q C X hP1 hS1 hl hc
theorem ga_2 {j : Nat} (pc' : Nat) (hp : pc + 1 = pc') (hj : j < 48) (hd : decode cc pc = .ok (.iaload, 1)) (kk : G V E d own cc nL rt pc' lv (.int (nI (h.1 2 j)) :: st) h post) : G V E d own cc nL rt pc lv (.int (nI j) :: rf V 2 :: st) h post := g_iald (k := 2) (n := 48) (f := fun j => h.1 2 j) pc' hp (by decide) rfl hj (by decide) hd kk
theorem gs_2 {j v : Nat} (pc' : Nat) (hp : pc + 1 = pc') (hj : j < 48) (hd : decode cc pc = .ok (.iastore, 1)) (kk : G V E d own cc nL rt pc' lv (st) (sR h 2 (up (h.1 2) (j) v)) post) : G V E d own cc nL rt pc lv (.int (nI v) :: .int (nI j) :: rf V 2 :: st) h post := g_iast (k := 2) (n := 48) (off := j) (f := fun j => h.1 2 j) (f' := fun i => up (h.1 2) (j) v (i)) pc' hp (by decide) rfl hj (by decide) rfl rfl (fun i => by
    show nI (if (i) = (j) then v else h.1 2 (i)) = _
    by_cases q : i = j
    · rw [if_pos (by omega), if_pos q]
    · rw [if_neg (by omega), if_neg q]) hd kk
theorem ga_4 {j : Nat} (pc' : Nat) (hp : pc + 1 = pc') (hj : j < 4) (hd : decode cc pc = .ok (.iaload, 1)) (kk : G V E d own cc nL rt pc' lv (.int (nI (h.1 4 (3 * j))) :: st) h post) : G V E d own cc nL rt pc lv (.int (nI j) :: rf V 4 :: st) h post := g_iald (k := 4) (n := 4) (f := fun j => h.1 4 (3 * j)) pc' hp (by decide) rfl hj (by decide) hd kk
theorem gs_4 {j v : Nat} (pc' : Nat) (hp : pc + 1 = pc') (hj : j < 4) (hd : decode cc pc = .ok (.iastore, 1)) (kk : G V E d own cc nL rt pc' lv (st) (sR h 4 (up (h.1 4) (3 * j) v)) post) : G V E d own cc nL rt pc lv (.int (nI v) :: .int (nI j) :: rf V 4 :: st) h post := g_iast (k := 4) (n := 4) (off := 3 * j) (f := fun j => h.1 4 (3 * j)) (f' := fun i => up (h.1 4) (3 * j) v (3 * i)) pc' hp (by decide) rfl hj (by decide) (show 4 + (3 * j) % 3 = 4 by omega) rfl (fun i => by
    show nI (if (3 * i) = (3 * j) then v else h.1 4 (3 * i)) = _
    by_cases q : i = j
    · rw [if_pos (by omega), if_pos q]
    · rw [if_neg (by omega), if_neg q]) hd kk
theorem ga_5 {j : Nat} (pc' : Nat) (hp : pc + 1 = pc') (hj : j < 4) (hd : decode cc pc = .ok (.iaload, 1)) (kk : G V E d own cc nL rt pc' lv (.int (nI (h.1 4 (3 * j + 1))) :: st) h post) : G V E d own cc nL rt pc lv (.int (nI j) :: rf V 5 :: st) h post := g_iald (k := 5) (n := 4) (f := fun j => h.1 4 (3 * j + 1)) pc' hp (by decide) rfl hj (by decide) hd kk
theorem gs_5 {j v : Nat} (pc' : Nat) (hp : pc + 1 = pc') (hj : j < 4) (hd : decode cc pc = .ok (.iastore, 1)) (kk : G V E d own cc nL rt pc' lv (st) (sR h 4 (up (h.1 4) (3 * j + 1) v)) post) : G V E d own cc nL rt pc lv (.int (nI v) :: .int (nI j) :: rf V 5 :: st) h post := g_iast (k := 5) (n := 4) (off := 3 * j + 1) (f := fun j => h.1 4 (3 * j + 1)) (f' := fun i => up (h.1 4) (3 * j + 1) v (3 * i + 1)) pc' hp (by decide) rfl hj (by decide) (show 4 + (3 * j + 1) % 3 = 5 by omega) rfl (fun i => by
    show nI (if (3 * i + 1) = (3 * j + 1) then v else h.1 4 (3 * i + 1)) = _
    by_cases q : i = j
    · rw [if_pos (by omega), if_pos q]
    · rw [if_neg (by omega), if_neg q]) hd kk
theorem ga_6 {j : Nat} (pc' : Nat) (hp : pc + 1 = pc') (hj : j < 4) (hd : decode cc pc = .ok (.iaload, 1)) (kk : G V E d own cc nL rt pc' lv (.int (nI (h.1 4 (3 * j + 2))) :: st) h post) : G V E d own cc nL rt pc lv (.int (nI j) :: rf V 6 :: st) h post := g_iald (k := 6) (n := 4) (f := fun j => h.1 4 (3 * j + 2)) pc' hp (by decide) rfl hj (by decide) hd kk
theorem gs_6 {j v : Nat} (pc' : Nat) (hp : pc + 1 = pc') (hj : j < 4) (hd : decode cc pc = .ok (.iastore, 1)) (kk : G V E d own cc nL rt pc' lv (st) (sR h 4 (up (h.1 4) (3 * j + 2) v)) post) : G V E d own cc nL rt pc lv (.int (nI v) :: .int (nI j) :: rf V 6 :: st) h post := g_iast (k := 6) (n := 4) (off := 3 * j + 2) (f := fun j => h.1 4 (3 * j + 2)) (f' := fun i => up (h.1 4) (3 * j + 2) v (3 * i + 2)) pc' hp (by decide) rfl hj (by decide) (show 4 + (3 * j + 2) % 3 = 6 by omega) rfl (fun i => by
    show nI (if (3 * i + 2) = (3 * j + 2) then v else h.1 4 (3 * i + 2)) = _
    by_cases q : i = j
    · rw [if_pos (by omega), if_pos q]
    · rw [if_neg (by omega), if_neg q]) hd kk
theorem ga_7 {j : Nat} (pc' : Nat) (hp : pc + 1 = pc') (hj : j < 5) (hd : decode cc pc = .ok (.iaload, 1)) (kk : G V E d own cc nL rt pc' lv (.int (nI (h.1 7 (3 * j))) :: st) h post) : G V E d own cc nL rt pc lv (.int (nI j) :: rf V 7 :: st) h post := g_iald (k := 7) (n := 5) (f := fun j => h.1 7 (3 * j)) pc' hp (by decide) rfl hj (by decide) hd kk
theorem gs_7 {j v : Nat} (pc' : Nat) (hp : pc + 1 = pc') (hj : j < 5) (hd : decode cc pc = .ok (.iastore, 1)) (kk : G V E d own cc nL rt pc' lv (st) (sR h 7 (up (h.1 7) (3 * j) v)) post) : G V E d own cc nL rt pc lv (.int (nI v) :: .int (nI j) :: rf V 7 :: st) h post := g_iast (k := 7) (n := 5) (off := 3 * j) (f := fun j => h.1 7 (3 * j)) (f' := fun i => up (h.1 7) (3 * j) v (3 * i)) pc' hp (by decide) rfl hj (by decide) (show 7 + (3 * j) % 3 = 7 by omega) rfl (fun i => by
    show nI (if (3 * i) = (3 * j) then v else h.1 7 (3 * i)) = _
    by_cases q : i = j
    · rw [if_pos (by omega), if_pos q]
    · rw [if_neg (by omega), if_neg q]) hd kk
theorem ga_8 {j : Nat} (pc' : Nat) (hp : pc + 1 = pc') (hj : j < 5) (hd : decode cc pc = .ok (.iaload, 1)) (kk : G V E d own cc nL rt pc' lv (.int (nI (h.1 7 (3 * j + 1))) :: st) h post) : G V E d own cc nL rt pc lv (.int (nI j) :: rf V 8 :: st) h post := g_iald (k := 8) (n := 5) (f := fun j => h.1 7 (3 * j + 1)) pc' hp (by decide) rfl hj (by decide) hd kk
theorem gs_8 {j v : Nat} (pc' : Nat) (hp : pc + 1 = pc') (hj : j < 5) (hd : decode cc pc = .ok (.iastore, 1)) (kk : G V E d own cc nL rt pc' lv (st) (sR h 7 (up (h.1 7) (3 * j + 1) v)) post) : G V E d own cc nL rt pc lv (.int (nI v) :: .int (nI j) :: rf V 8 :: st) h post := g_iast (k := 8) (n := 5) (off := 3 * j + 1) (f := fun j => h.1 7 (3 * j + 1)) (f' := fun i => up (h.1 7) (3 * j + 1) v (3 * i + 1)) pc' hp (by decide) rfl hj (by decide) (show 7 + (3 * j + 1) % 3 = 8 by omega) rfl (fun i => by
    show nI (if (3 * i + 1) = (3 * j + 1) then v else h.1 7 (3 * i + 1)) = _
    by_cases q : i = j
    · rw [if_pos (by omega), if_pos q]
    · rw [if_neg (by omega), if_neg q]) hd kk
theorem ga_9 {j : Nat} (pc' : Nat) (hp : pc + 1 = pc') (hj : j < 5) (hd : decode cc pc = .ok (.iaload, 1)) (kk : G V E d own cc nL rt pc' lv (.int (nI (h.1 7 (3 * j + 2))) :: st) h post) : G V E d own cc nL rt pc lv (.int (nI j) :: rf V 9 :: st) h post := g_iald (k := 9) (n := 5) (f := fun j => h.1 7 (3 * j + 2)) pc' hp (by decide) rfl hj (by decide) hd kk
theorem gs_9 {j v : Nat} (pc' : Nat) (hp : pc + 1 = pc') (hj : j < 5) (hd : decode cc pc = .ok (.iastore, 1)) (kk : G V E d own cc nL rt pc' lv (st) (sR h 7 (up (h.1 7) (3 * j + 2) v)) post) : G V E d own cc nL rt pc lv (.int (nI v) :: .int (nI j) :: rf V 9 :: st) h post := g_iast (k := 9) (n := 5) (off := 3 * j + 2) (f := fun j => h.1 7 (3 * j + 2)) (f' := fun i => up (h.1 7) (3 * j + 2) v (3 * i + 2)) pc' hp (by decide) rfl hj (by decide) (show 7 + (3 * j + 2) % 3 = 9 by omega) rfl (fun i => by
    show nI (if (3 * i + 2) = (3 * j + 2) then v else h.1 7 (3 * i + 2)) = _
    by_cases q : i = j
    · rw [if_pos (by omega), if_pos q]
    · rw [if_neg (by omega), if_neg q]) hd kk
theorem ga_11 {j : Nat} (pc' : Nat) (hp : pc + 1 = pc') (hj : j < 14) (hd : decode cc pc = .ok (.aaload, 1)) (kk : G V E d own cc nL rt pc' lv (rf V (tb (j + 2)) :: st) h post) : G V E d own cc nL rt pc lv (.int (nI j) :: rf V 11 :: st) h post := g_aald (k := 11) pc' hp (by decide) rfl hj (by decide) hd kk
theorem ga_13 {j : Nat} (pc' : Nat) (hp : pc + 1 = pc') (hj : j < 2) (hd : decode cc pc = .ok (.aaload, 1)) (kk : G V E d own cc nL rt pc' lv (rf V (tb (j + 16)) :: st) h post) : G V E d own cc nL rt pc lv (.int (nI j) :: rf V 13 :: st) h post := g_aald (k := 13) pc' hp (by decide) rfl hj (by decide) hd kk
theorem ga_14 {j : Nat} (pc' : Nat) (hp : pc + 1 = pc') (hj : j < 2) (hd : decode cc pc = .ok (.baload, 1)) (kk : G V E d own cc nL rt pc' lv (.int (nI (h.1 14 j)) :: st) h post) : G V E d own cc nL rt pc lv (.int (nI j) :: rf V 14 :: st) h post := g_zald (k := 14) (n := 2) (f := fun j => h.1 14 j) pc' hp (by decide) rfl hj (by decide) hd kk
theorem gs_14 {j v : Nat} (pc' : Nat) (hp : pc + 1 = pc') (hj : j < 2) (hv : v < 2) (hd : decode cc pc = .ok (.bastore, 1)) (kk : G V E d own cc nL rt pc' lv (st) (sR h 14 (up (h.1 14) (j) v)) post) : G V E d own cc nL rt pc lv (.int (nI v) :: .int (nI j) :: rf V 14 :: st) h post := g_zast (k := 14) (n := 2) (off := j) (f := fun j => h.1 14 j) (f' := fun i => up (h.1 14) (j) v (i)) pc' hp (by decide) rfl hj (by decide) rfl rfl (fun i => by
    show nI (if (i) = (j) then v else h.1 14 (i)) = _
    by_cases q : i = j
    · rw [if_pos (by omega), if_pos q]
      exact bnar hv
    · rw [if_neg (by omega), if_neg q]) hd kk
theorem ga_16 {j : Nat} (pc' : Nat) (hp : pc + 1 = pc') (hj : j < 6) (hd : decode cc pc = .ok (.iaload, 1)) (kk : G V E d own cc nL rt pc' lv (.int (nI (h.1 16 j)) :: st) h post) : G V E d own cc nL rt pc lv (.int (nI j) :: rf V 16 :: st) h post := g_iald (k := 16) (n := 6) (f := fun j => h.1 16 j) pc' hp (by decide) rfl hj (by decide) hd kk
theorem gs_16 {j v : Nat} (pc' : Nat) (hp : pc + 1 = pc') (hj : j < 6) (hd : decode cc pc = .ok (.iastore, 1)) (kk : G V E d own cc nL rt pc' lv (st) (sR h 16 (up (h.1 16) (j) v)) post) : G V E d own cc nL rt pc lv (.int (nI v) :: .int (nI j) :: rf V 16 :: st) h post := g_iast (k := 16) (n := 6) (off := j) (f := fun j => h.1 16 j) (f' := fun i => up (h.1 16) (j) v (i)) pc' hp (by decide) rfl hj (by decide) rfl rfl (fun i => by
    show nI (if (i) = (j) then v else h.1 16 (i)) = _
    by_cases q : i = j
    · rw [if_pos (by omega), if_pos q]
    · rw [if_neg (by omega), if_neg q]) hd kk
theorem ga_17 {j : Nat} (pc' : Nat) (hp : pc + 1 = pc') (hj : j < 6) (hd : decode cc pc = .ok (.iaload, 1)) (kk : G V E d own cc nL rt pc' lv (.int (nI (h.1 17 j)) :: st) h post) : G V E d own cc nL rt pc lv (.int (nI j) :: rf V 17 :: st) h post := g_iald (k := 17) (n := 6) (f := fun j => h.1 17 j) pc' hp (by decide) rfl hj (by decide) hd kk
theorem gs_17 {j v : Nat} (pc' : Nat) (hp : pc + 1 = pc') (hj : j < 6) (hd : decode cc pc = .ok (.iastore, 1)) (kk : G V E d own cc nL rt pc' lv (st) (sR h 17 (up (h.1 17) (j) v)) post) : G V E d own cc nL rt pc lv (.int (nI v) :: .int (nI j) :: rf V 17 :: st) h post := g_iast (k := 17) (n := 6) (off := j) (f := fun j => h.1 17 j) (f' := fun i => up (h.1 17) (j) v (i)) pc' hp (by decide) rfl hj (by decide) rfl rfl (fun i => by
    show nI (if (i) = (j) then v else h.1 17 (i)) = _
    by_cases q : i = j
    · rw [if_pos (by omega), if_pos q]
    · rw [if_neg (by omega), if_neg q]) hd kk
theorem ga_18 {j : Nat} (pc' : Nat) (hp : pc + 1 = pc') (hj : j < 6) (hd : decode cc pc = .ok (.iaload, 1)) (kk : G V E d own cc nL rt pc' lv (.int (nI (h.1 18 j)) :: st) h post) : G V E d own cc nL rt pc lv (.int (nI j) :: rf V 18 :: st) h post := g_iald (k := 18) (n := 6) (f := fun j => h.1 18 j) pc' hp (by decide) rfl hj (by decide) hd kk
theorem gs_18 {j v : Nat} (pc' : Nat) (hp : pc + 1 = pc') (hj : j < 6) (hd : decode cc pc = .ok (.iastore, 1)) (kk : G V E d own cc nL rt pc' lv (st) (sR h 18 (up (h.1 18) (j) v)) post) : G V E d own cc nL rt pc lv (.int (nI v) :: .int (nI j) :: rf V 18 :: st) h post := g_iast (k := 18) (n := 6) (off := j) (f := fun j => h.1 18 j) (f' := fun i => up (h.1 18) (j) v (i)) pc' hp (by decide) rfl hj (by decide) rfl rfl (fun i => by
    show nI (if (i) = (j) then v else h.1 18 (i)) = _
    by_cases q : i = j
    · rw [if_pos (by omega), if_pos q]
    · rw [if_neg (by omega), if_neg q]) hd kk
theorem ga_20 {j : Nat} (pc' : Nat) (hp : pc + 1 = pc') (hj : j < 6) (hd : decode cc pc = .ok (.aaload, 1)) (kk : G V E d own cc nL rt pc' lv (rf V (tb (j + 18)) :: st) h post) : G V E d own cc nL rt pc lv (.int (nI j) :: rf V 20 :: st) h post := g_aald (k := 20) pc' hp (by decide) rfl hj (by decide) hd kk
theorem ga_23 {j : Nat} (pc' : Nat) (hp : pc + 1 = pc') (hj : j < 48) (hd : decode cc pc = .ok (.iaload, 1)) (kk : G V E d own cc nL rt pc' lv (.int (nI (h.1 23 j)) :: st) h post) : G V E d own cc nL rt pc lv (.int (nI j) :: rf V 23 :: st) h post := g_iald (k := 23) (n := 48) (f := fun j => h.1 23 j) pc' hp (by decide) rfl hj (by decide) hd kk
theorem gs_23 {j v : Nat} (pc' : Nat) (hp : pc + 1 = pc') (hj : j < 48) (hd : decode cc pc = .ok (.iastore, 1)) (kk : G V E d own cc nL rt pc' lv (st) (sR h 23 (up (h.1 23) (j) v)) post) : G V E d own cc nL rt pc lv (.int (nI v) :: .int (nI j) :: rf V 23 :: st) h post := g_iast (k := 23) (n := 48) (off := j) (f := fun j => h.1 23 j) (f' := fun i => up (h.1 23) (j) v (i)) pc' hp (by decide) rfl hj (by decide) rfl rfl (fun i => by
    show nI (if (i) = (j) then v else h.1 23 (i)) = _
    by_cases q : i = j
    · rw [if_pos (by omega), if_pos q]
    · rw [if_neg (by omega), if_neg q]) hd kk
theorem ga_24 {j : Nat} (pc' : Nat) (hp : pc + 1 = pc') (hj : j < 12) (hd : decode cc pc = .ok (.iaload, 1)) (kk : G V E d own cc nL rt pc' lv (.int (nI (h.1 24 j)) :: st) h post) : G V E d own cc nL rt pc lv (.int (nI j) :: rf V 24 :: st) h post := g_iald (k := 24) (n := 12) (f := fun j => h.1 24 j) pc' hp (by decide) rfl hj (by decide) hd kk
theorem gs_24 {j v : Nat} (pc' : Nat) (hp : pc + 1 = pc') (hj : j < 12) (hd : decode cc pc = .ok (.iastore, 1)) (kk : G V E d own cc nL rt pc' lv (st) (sR h 24 (up (h.1 24) (j) v)) post) : G V E d own cc nL rt pc lv (.int (nI v) :: .int (nI j) :: rf V 24 :: st) h post := g_iast (k := 24) (n := 12) (off := j) (f := fun j => h.1 24 j) (f' := fun i => up (h.1 24) (j) v (i)) pc' hp (by decide) rfl hj (by decide) rfl rfl (fun i => by
    show nI (if (i) = (j) then v else h.1 24 (i)) = _
    by_cases q : i = j
    · rw [if_pos (by omega), if_pos q]
    · rw [if_neg (by omega), if_neg q]) hd kk
theorem ga_25 {j : Nat} (pc' : Nat) (hp : pc + 1 = pc') (hj : j < 15) (hd : decode cc pc = .ok (.iaload, 1)) (kk : G V E d own cc nL rt pc' lv (.int (nI (h.1 25 j)) :: st) h post) : G V E d own cc nL rt pc lv (.int (nI j) :: rf V 25 :: st) h post := g_iald (k := 25) (n := 15) (f := fun j => h.1 25 j) pc' hp (by decide) rfl hj (by decide) hd kk
theorem gs_25 {j v : Nat} (pc' : Nat) (hp : pc + 1 = pc') (hj : j < 15) (hd : decode cc pc = .ok (.iastore, 1)) (kk : G V E d own cc nL rt pc' lv (st) (sR h 25 (up (h.1 25) (j) v)) post) : G V E d own cc nL rt pc lv (.int (nI v) :: .int (nI j) :: rf V 25 :: st) h post := g_iast (k := 25) (n := 15) (off := j) (f := fun j => h.1 25 j) (f' := fun i => up (h.1 25) (j) v (i)) pc' hp (by decide) rfl hj (by decide) rfl rfl (fun i => by
    show nI (if (i) = (j) then v else h.1 25 (i)) = _
    by_cases q : i = j
    · rw [if_pos (by omega), if_pos q]
    · rw [if_neg (by omega), if_neg q]) hd kk
theorem ga_26 {j : Nat} (pc' : Nat) (hp : pc + 1 = pc') (hj : j < 12) (hd : decode cc pc = .ok (.iaload, 1)) (kk : G V E d own cc nL rt pc' lv (.int (nI (h.1 26 j)) :: st) h post) : G V E d own cc nL rt pc lv (.int (nI j) :: rf V 26 :: st) h post := g_iald (k := 26) (n := 12) (f := fun j => h.1 26 j) pc' hp (by decide) rfl hj (by decide) hd kk
theorem gs_26 {j v : Nat} (pc' : Nat) (hp : pc + 1 = pc') (hj : j < 12) (hd : decode cc pc = .ok (.iastore, 1)) (kk : G V E d own cc nL rt pc' lv (st) (sR h 26 (up (h.1 26) (j) v)) post) : G V E d own cc nL rt pc lv (.int (nI v) :: .int (nI j) :: rf V 26 :: st) h post := g_iast (k := 26) (n := 12) (off := j) (f := fun j => h.1 26 j) (f' := fun i => up (h.1 26) (j) v (i)) pc' hp (by decide) rfl hj (by decide) rfl rfl (fun i => by
    show nI (if (i) = (j) then v else h.1 26 (i)) = _
    by_cases q : i = j
    · rw [if_pos (by omega), if_pos q]
    · rw [if_neg (by omega), if_neg q]) hd kk
theorem ga_27 {j : Nat} (pc' : Nat) (hp : pc + 1 = pc') (hj : j < 15) (hd : decode cc pc = .ok (.iaload, 1)) (kk : G V E d own cc nL rt pc' lv (.int (nI (h.1 27 j)) :: st) h post) : G V E d own cc nL rt pc lv (.int (nI j) :: rf V 27 :: st) h post := g_iald (k := 27) (n := 15) (f := fun j => h.1 27 j) pc' hp (by decide) rfl hj (by decide) hd kk
theorem gs_27 {j v : Nat} (pc' : Nat) (hp : pc + 1 = pc') (hj : j < 15) (hd : decode cc pc = .ok (.iastore, 1)) (kk : G V E d own cc nL rt pc' lv (st) (sR h 27 (up (h.1 27) (j) v)) post) : G V E d own cc nL rt pc lv (.int (nI v) :: .int (nI j) :: rf V 27 :: st) h post := g_iast (k := 27) (n := 15) (off := j) (f := fun j => h.1 27 j) (f' := fun i => up (h.1 27) (j) v (i)) pc' hp (by decide) rfl hj (by decide) rfl rfl (fun i => by
    show nI (if (i) = (j) then v else h.1 27 (i)) = _
    by_cases q : i = j
    · rw [if_pos (by omega), if_pos q]
    · rw [if_neg (by omega), if_neg q]) hd kk
theorem ga_28 {j : Nat} (pc' : Nat) (hp : pc + 1 = pc') (hj : j < 10) (hd : decode cc pc = .ok (.iaload, 1)) (kk : G V E d own cc nL rt pc' lv (.int (nI (h.1 28 j)) :: st) h post) : G V E d own cc nL rt pc lv (.int (nI j) :: rf V 28 :: st) h post := g_iald (k := 28) (n := 10) (f := fun j => h.1 28 j) pc' hp (by decide) rfl hj (by decide) hd kk
theorem gs_28 {j v : Nat} (pc' : Nat) (hp : pc + 1 = pc') (hj : j < 10) (hd : decode cc pc = .ok (.iastore, 1)) (kk : G V E d own cc nL rt pc' lv (st) (sR h 28 (up (h.1 28) (j) v)) post) : G V E d own cc nL rt pc lv (.int (nI v) :: .int (nI j) :: rf V 28 :: st) h post := g_iast (k := 28) (n := 10) (off := j) (f := fun j => h.1 28 j) (f' := fun i => up (h.1 28) (j) v (i)) pc' hp (by decide) rfl hj (by decide) rfl rfl (fun i => by
    show nI (if (i) = (j) then v else h.1 28 (i)) = _
    by_cases q : i = j
    · rw [if_pos (by omega), if_pos q]
    · rw [if_neg (by omega), if_neg q]) hd kk
theorem ga_29 {j : Nat} (pc' : Nat) (hp : pc + 1 = pc') (hj : j < 10) (hd : decode cc pc = .ok (.iaload, 1)) (kk : G V E d own cc nL rt pc' lv (.int (nI (h.1 29 j)) :: st) h post) : G V E d own cc nL rt pc lv (.int (nI j) :: rf V 29 :: st) h post := g_iald (k := 29) (n := 10) (f := fun j => h.1 29 j) pc' hp (by decide) rfl hj (by decide) hd kk
theorem gs_29 {j v : Nat} (pc' : Nat) (hp : pc + 1 = pc') (hj : j < 10) (hd : decode cc pc = .ok (.iastore, 1)) (kk : G V E d own cc nL rt pc' lv (st) (sR h 29 (up (h.1 29) (j) v)) post) : G V E d own cc nL rt pc lv (.int (nI v) :: .int (nI j) :: rf V 29 :: st) h post := g_iast (k := 29) (n := 10) (off := j) (f := fun j => h.1 29 j) (f' := fun i => up (h.1 29) (j) v (i)) pc' hp (by decide) rfl hj (by decide) rfl rfl (fun i => by
    show nI (if (i) = (j) then v else h.1 29 (i)) = _
    by_cases q : i = j
    · rw [if_pos (by omega), if_pos q]
    · rw [if_neg (by omega), if_neg q]) hd kk
theorem ga_30 {j : Nat} (pc' : Nat) (hp : pc + 1 = pc') (hj : j < 140) (hd : decode cc pc = .ok (.iaload, 1)) (kk : G V E d own cc nL rt pc' lv (.int (nI (h.1 30 j)) :: st) h post) : G V E d own cc nL rt pc lv (.int (nI j) :: rf V 30 :: st) h post := g_iald (k := 30) (n := 140) (f := fun j => h.1 30 j) pc' hp (by decide) rfl hj (by decide) hd kk
theorem gs_30 {j v : Nat} (pc' : Nat) (hp : pc + 1 = pc') (hj : j < 140) (hd : decode cc pc = .ok (.iastore, 1)) (kk : G V E d own cc nL rt pc' lv (st) (sR h 30 (up (h.1 30) (j) v)) post) : G V E d own cc nL rt pc lv (.int (nI v) :: .int (nI j) :: rf V 30 :: st) h post := g_iast (k := 30) (n := 140) (off := j) (f := fun j => h.1 30 j) (f' := fun i => up (h.1 30) (j) v (i)) pc' hp (by decide) rfl hj (by decide) rfl rfl (fun i => by
    show nI (if (i) = (j) then v else h.1 30 (i)) = _
    by_cases q : i = j
    · rw [if_pos (by omega), if_pos q]
    · rw [if_neg (by omega), if_neg q]) hd kk
theorem ga_31 {j : Nat} (pc' : Nat) (hp : pc + 1 = pc') (hj : j < 20) (hd : decode cc pc = .ok (.iaload, 1)) (kk : G V E d own cc nL rt pc' lv (.int (nI (h.1 31 j)) :: st) h post) : G V E d own cc nL rt pc lv (.int (nI j) :: rf V 31 :: st) h post := g_iald (k := 31) (n := 20) (f := fun j => h.1 31 j) pc' hp (by decide) rfl hj (by decide) hd kk
theorem gs_31 {j v : Nat} (pc' : Nat) (hp : pc + 1 = pc') (hj : j < 20) (hd : decode cc pc = .ok (.iastore, 1)) (kk : G V E d own cc nL rt pc' lv (st) (sR h 31 (up (h.1 31) (j) v)) post) : G V E d own cc nL rt pc lv (.int (nI v) :: .int (nI j) :: rf V 31 :: st) h post := g_iast (k := 31) (n := 20) (off := j) (f := fun j => h.1 31 j) (f' := fun i => up (h.1 31) (j) v (i)) pc' hp (by decide) rfl hj (by decide) rfl rfl (fun i => by
    show nI (if (i) = (j) then v else h.1 31 (i)) = _
    by_cases q : i = j
    · rw [if_pos (by omega), if_pos q]
    · rw [if_neg (by omega), if_neg q]) hd kk
theorem ga_32 {j : Nat} (pc' : Nat) (hp : pc + 1 = pc') (hj : j < 2) (hd : decode cc pc = .ok (.baload, 1)) (kk : G V E d own cc nL rt pc' lv (.int (nI (h.1 32 j)) :: st) h post) : G V E d own cc nL rt pc lv (.int (nI j) :: rf V 32 :: st) h post := g_zald (k := 32) (n := 2) (f := fun j => h.1 32 j) pc' hp (by decide) rfl hj (by decide) hd kk
theorem gs_32 {j v : Nat} (pc' : Nat) (hp : pc + 1 = pc') (hj : j < 2) (hv : v < 2) (hd : decode cc pc = .ok (.bastore, 1)) (kk : G V E d own cc nL rt pc' lv (st) (sR h 32 (up (h.1 32) (j) v)) post) : G V E d own cc nL rt pc lv (.int (nI v) :: .int (nI j) :: rf V 32 :: st) h post := g_zast (k := 32) (n := 2) (off := j) (f := fun j => h.1 32 j) (f' := fun i => up (h.1 32) (j) v (i)) pc' hp (by decide) rfl hj (by decide) rfl rfl (fun i => by
    show nI (if (i) = (j) then v else h.1 32 (i)) = _
    by_cases q : i = j
    · rw [if_pos (by omega), if_pos q]
      exact bnar hv
    · rw [if_neg (by omega), if_neg q]) hd kk
theorem ga_33 {j : Nat} (pc' : Nat) (hp : pc + 1 = pc') (hj : j < 6) (hd : decode cc pc = .ok (.iaload, 1)) (kk : G V E d own cc nL rt pc' lv (.int (nI (h.1 33 j)) :: st) h post) : G V E d own cc nL rt pc lv (.int (nI j) :: rf V 33 :: st) h post := g_iald (k := 33) (n := 6) (f := fun j => h.1 33 j) pc' hp (by decide) rfl hj (by decide) hd kk
theorem gs_33 {j v : Nat} (pc' : Nat) (hp : pc + 1 = pc') (hj : j < 6) (hd : decode cc pc = .ok (.iastore, 1)) (kk : G V E d own cc nL rt pc' lv (st) (sR h 33 (up (h.1 33) (j) v)) post) : G V E d own cc nL rt pc lv (.int (nI v) :: .int (nI j) :: rf V 33 :: st) h post := g_iast (k := 33) (n := 6) (off := j) (f := fun j => h.1 33 j) (f' := fun i => up (h.1 33) (j) v (i)) pc' hp (by decide) rfl hj (by decide) rfl rfl (fun i => by
    show nI (if (i) = (j) then v else h.1 33 (i)) = _
    by_cases q : i = j
    · rw [if_pos (by omega), if_pos q]
    · rw [if_neg (by omega), if_neg q]) hd kk
theorem ga_34 {j : Nat} (pc' : Nat) (hp : pc + 1 = pc') (hj : j < 6) (hd : decode cc pc = .ok (.iaload, 1)) (kk : G V E d own cc nL rt pc' lv (.int (nI (h.1 34 j)) :: st) h post) : G V E d own cc nL rt pc lv (.int (nI j) :: rf V 34 :: st) h post := g_iald (k := 34) (n := 6) (f := fun j => h.1 34 j) pc' hp (by decide) rfl hj (by decide) hd kk
theorem gs_34 {j v : Nat} (pc' : Nat) (hp : pc + 1 = pc') (hj : j < 6) (hd : decode cc pc = .ok (.iastore, 1)) (kk : G V E d own cc nL rt pc' lv (st) (sR h 34 (up (h.1 34) (j) v)) post) : G V E d own cc nL rt pc lv (.int (nI v) :: .int (nI j) :: rf V 34 :: st) h post := g_iast (k := 34) (n := 6) (off := j) (f := fun j => h.1 34 j) (f' := fun i => up (h.1 34) (j) v (i)) pc' hp (by decide) rfl hj (by decide) rfl rfl (fun i => by
    show nI (if (i) = (j) then v else h.1 34 (i)) = _
    by_cases q : i = j
    · rw [if_pos (by omega), if_pos q]
    · rw [if_neg (by omega), if_neg q]) hd kk
theorem ga_35 {j : Nat} (pc' : Nat) (hp : pc + 1 = pc') (hj : j < 6) (hd : decode cc pc = .ok (.iaload, 1)) (kk : G V E d own cc nL rt pc' lv (.int (nI (h.1 35 j)) :: st) h post) : G V E d own cc nL rt pc lv (.int (nI j) :: rf V 35 :: st) h post := g_iald (k := 35) (n := 6) (f := fun j => h.1 35 j) pc' hp (by decide) rfl hj (by decide) hd kk
theorem gs_35 {j v : Nat} (pc' : Nat) (hp : pc + 1 = pc') (hj : j < 6) (hd : decode cc pc = .ok (.iastore, 1)) (kk : G V E d own cc nL rt pc' lv (st) (sR h 35 (up (h.1 35) (j) v)) post) : G V E d own cc nL rt pc lv (.int (nI v) :: .int (nI j) :: rf V 35 :: st) h post := g_iast (k := 35) (n := 6) (off := j) (f := fun j => h.1 35 j) (f' := fun i => up (h.1 35) (j) v (i)) pc' hp (by decide) rfl hj (by decide) rfl rfl (fun i => by
    show nI (if (i) = (j) then v else h.1 35 (i)) = _
    by_cases q : i = j
    · rw [if_pos (by omega), if_pos q]
    · rw [if_neg (by omega), if_neg q]) hd kk
theorem ga_36 {j : Nat} (pc' : Nat) (hp : pc + 1 = pc') (hj : j < 16) (hd : decode cc pc = .ok (.iaload, 1)) (kk : G V E d own cc nL rt pc' lv (.int (nI (h.1 36 j)) :: st) h post) : G V E d own cc nL rt pc lv (.int (nI j) :: rf V 36 :: st) h post := g_iald (k := 36) (n := 16) (f := fun j => h.1 36 j) pc' hp (by decide) rfl hj (by decide) hd kk
theorem gs_36 {j v : Nat} (pc' : Nat) (hp : pc + 1 = pc') (hj : j < 16) (hd : decode cc pc = .ok (.iastore, 1)) (kk : G V E d own cc nL rt pc' lv (st) (sR h 36 (up (h.1 36) (j) v)) post) : G V E d own cc nL rt pc lv (.int (nI v) :: .int (nI j) :: rf V 36 :: st) h post := g_iast (k := 36) (n := 16) (off := j) (f := fun j => h.1 36 j) (f' := fun i => up (h.1 36) (j) v (i)) pc' hp (by decide) rfl hj (by decide) rfl rfl (fun i => by
    show nI (if (i) = (j) then v else h.1 36 (i)) = _
    by_cases q : i = j
    · rw [if_pos (by omega), if_pos q]
    · rw [if_neg (by omega), if_neg q]) hd kk
theorem hc_tt (V : Vt) (h : Hp) (i : Nat) : cl V h.2 (tb i + 1) (h.1 (rw (tb i + 1))) = ai V 4 (fun j => h.1 (tr i) (tof j)) := by
  rw [rw_tt, cl_tt]
theorem tof_lt {j : Nat} (h : j < 4) : tof j = 2 + j := if_pos h
theorem ga_tt {i j : Nat} (pc' : Nat) (hp : pc + 1 = pc') (hi : i < 24) (hj : j < 4) (hd : decode cc pc = .ok (.iaload, 1)) (kk : G V E d own cc nL rt pc' lv (.int (nI (h.1 (tr i) (2 + j))) :: st) h post) : G V E d own cc nL rt pc lv (.int (nI j) :: rf V (tb i + 1) :: st) h post := by
  refine g_iald (k := tb i + 1) (n := 4) (f := fun j => h.1 (tr i) (tof j)) pc' hp (by unfold tb; omega) (hc_tt V h i) hj (by decide) hd ?_
  show G V E d own cc nL rt pc' lv (.int (nI (h.1 (tr i) (tof j))) :: st) h post
  rw [tof_lt hj]
  exact kk
theorem gs_tt {i j v : Nat} (pc' : Nat) (hp : pc + 1 = pc') (hi : i < 24) (hj : j < 4) (hd : decode cc pc = .ok (.iastore, 1)) (kk : G V E d own cc nL rt pc' lv (st) (sR h (tr i) (up (h.1 (tr i)) (2 + j) v)) post) : G V E d own cc nL rt pc lv (.int (nI v) :: .int (nI j) :: rf V (tb i + 1) :: st) h post := by
  refine g_iast (k := tb i + 1) (n := 4) (off := tof j) (f := fun j => h.1 (tr i) (tof j)) (f' := fun q => up (h.1 (tr i)) (tof j) v (tof q)) pc' hp (by unfold tb; omega) (hc_tt V h i) hj (by decide) (by rw [rw_tt]; exact ow_tt i j) (by rw [rw_tt, cl_tt]) (fun q => ?_) hd (by rw [rw_tt, tof_lt hj]; exact kk)
  show nI (if tof q = tof j then v else h.1 (tr i) (tof q)) = _
  by_cases w : q = j
  · rw [if_pos (by rw [w]), if_pos w]
  · rw [if_neg (fun z => w (tof_inj z)), if_neg w]
def Ob (V : Vt) (k ci : Nat) : Prop := k < 85 ∧ ∀ h : Hp, ∃ fs, cl V h.2 k (h.1 (rw k)) = .inr (ci, fs)
def CV (own : String) (idx : Nat) (y : MethodName) (cc : ByteArray) (nL : Nat) (rt : Option FieldType) (n ci : Nat) : Prop :=
  Cond.methodLink own idx y ∈ lw_tbl ∧ Cond.instanceMethod y ∈ lw_tbl ∧ Cond.selects y.cls y y ∈ lw_tbl ∧ Cond.initialized y.cls ∈ lw_tbl ∧ Cond.code y cc nL rt ∈ lw_tbl ∧ (y.cls ≠ "java/lang/invoke/MethodHandle" ∧ y.cls ≠ "java/lang/invoke/VarHandle" ∧ (parseMethodDescriptor y.desc).map (fun d => d.parameters.length) = some n) ∧ nL ≤ 41 ∧ ∃ T N, vwCl[ci]? = some (y.cls, T, N)
def CS (own : String) (idx : Nat) (y : MethodName) (cc : ByteArray) (nL : Nat) (rt : Option FieldType) (n : Nat) : Prop :=
  Cond.methodLink own idx y ∈ lw_tbl ∧ Cond.static y ∈ lw_tbl ∧ Cond.initialized y.cls ∈ lw_tbl ∧ Cond.code y cc nL rt ∈ lw_tbl ∧ (y.cls ≠ "java/lang/invoke/MethodHandle" ∧ y.cls ≠ "java/lang/invoke/VarHandle" ∧ (parseMethodDescriptor y.desc).map (fun d => d.parameters.length) = some n) ∧ nL ≤ 41
theorem g_callV {y : MethodName} {cc' : ByteArray} {nL' d' n ci k idx : Nat} {rt' : Option FieldType} {As st0 : List Value} {post' : Option Value → Hp → Prop} (hw : CV own idx y cc' nL' rt' n ci) (hM : Mt V d' y cc' nL' rt' (rf V k :: As) h post') (hdd : d' < d) (hk : Ob V k ci) (hn : As.length = n) (hst : st0 = As.reverse ++ rf V k :: st) (hr : (st.map fun v => v.category).sum ≤ 8) (hd : decode cc pc = .ok (.invokevirtual idx, 3)) (kk : ∀ (v : Option Value) (h' : Hp), post' v h' → G V E d own cc nL rt (pc + 3) lv (v.toList ++ st) h' post) : G V E d own cc nL rt pc lv (st0) h post := by
  intro p e s m args below meth c R H locs ls cells slots Q C X hP hS hl hc
  obtain ⟨w1, w2, w3, w4, w5, w6, w7, T, N, w8⟩ := hw
  obtain ⟨fs, hfs⟩ := hk.2 h
  have he := wd_at V h hk.1
  rw [hfs] at he
  have hts := C.2.2.2.2.1
  have hF := C.2.2.2.2.2.2.2.2.2.1
  have hL := C.2.2.2.2.2.2.2.2.2.2.1
  have cw : CallW R s args own y.cls idx y cc' nL' rt' (.code y cc' nL' rt' :: lw_g) (rm d') 0 0 n :=
    ⟨callB_of n hts (lw_code w5) rfl rfl rfl (hts _ (lgm w4 rfl)) (hts _ (lgm w1 rfl)) w6 ⟨by show d' + 1 ≤ R.frames; omega, by show 8 + (nL' + 11) + 60 * d' ≤ R.locals; omega⟩, hts _ (lgm w2 rfl), hts _ (lgm w3 rfl)⟩
  have run := va_runV (p := p) (e := e) (R := R) (below := below) (meth := meth) (locs := locs) (cells := cells) (slots := slots) (As := As) (rest := st) (g := F0 m pc ls st0) ⟨C.1, C.2.1, C.2.2.1, C.2.2.2.1, hts⟩ hM cw ⟨Pp_blind V _ h, va_recv C.2.2.2.2.2.2.2.1 hP w8 he, fun U hU hW => ⟨rfl, C.2.2.2.2.2.2.2.2.1, by rw [hU]; exact hP, va_K.moved hW.alike C.2.2.2.2.2.2.2.1⟩⟩ rfl hn hl.1 hst (lv_room hr) hd ⟨hc.1, hc.2⟩
  intro Tt hT Xt
  obtain ⟨v, st₀, t, T', L, h0, X', hL, e1, e2, ⟨⟨v', h', hv, hq, hP1⟩, hz, hk1⟩, stp⟩ := run Tt hT Xt
  cases hv
  rw [h0] at hz hk1
  obtain ⟨t2, a1, b1⟩ := kk v h' hq p e s m args below meth c R T'.heap (locs ++ L) ls cells slots Q C X (by rw [e1]; exact hP1)
    ⟨Nat.le_trans hS.1 (by rw [e1]; exact hz), fun q h1 h2 => by rw [e1, hk1 q (Nat.lt_of_lt_of_le h1 hS.1) h2]; exact hS.2.1 q h1 h2, fun q hq => by
      rcases List.mem_append.mp hq with w | w
      · exact hS.2.2 q w
      · exact hL q w⟩ hl hc T' rfl X'
  exact ⟨t2, stp t2 a1, b1⟩
theorem g_callS {y : MethodName} {cc' : ByteArray} {nL' d' n idx : Nat} {rt' : Option FieldType} {As st0 : List Value} {post' : Option Value → Hp → Prop} (hw : CS own idx y cc' nL' rt' n) (hM : Mt V d' y cc' nL' rt' As h post') (hdd : d' < d) (hn : As.length = n) (hst : st0 = As.reverse ++ st) (hr : (st.map fun v => v.category).sum ≤ 8) (hd : decode cc pc = .ok (.invokestatic idx, 3)) (kk : ∀ (v : Option Value) (h' : Hp), post' v h' → G V E d own cc nL rt (pc + 3) lv (v.toList ++ st) h' post) : G V E d own cc nL rt pc lv (st0) h post := by
  intro p e s m args below meth c R H locs ls cells slots Q C X hP hS hl hc
  obtain ⟨w1, w2, w4, w5, w6, w7⟩ := hw
  have hts := C.2.2.2.2.1
  have hF := C.2.2.2.2.2.2.2.2.2.1
  have hL := C.2.2.2.2.2.2.2.2.2.2.1
  have cw : CallB R s args own idx y cc' nL' rt' (.code y cc' nL' rt' :: lw_g) (rm d') 0 0 n ∧ (Cond.static y).before args s = true :=
    ⟨callB_of n hts (lw_code w5) rfl rfl rfl (hts _ (lgm w4 rfl)) (hts _ (lgm w1 rfl)) w6 ⟨by show d' + 1 ≤ R.frames; omega, by show 8 + (nL' + 11) + 60 * d' ≤ R.locals; omega⟩, hts _ (lgm w2 rfl)⟩
  have run := va_runS (p := p) (e := e) (R := R) (below := below) (meth := meth) (locs := locs) (cells := cells) (slots := slots) (As := As) (rest := st) (g := F0 m pc ls st0) ⟨C.1, C.2.1, C.2.2.1, C.2.2.2.1, hts⟩ hM cw ⟨Pp_blind V _ h, fun U hU hW => ⟨rfl, C.2.2.2.2.2.2.2.2.1, by rw [hU]; exact hP, va_K.moved hW.alike C.2.2.2.2.2.2.2.1⟩⟩ rfl hn hl.1 hst (lv_room hr) hd ⟨hc.1, hc.2⟩
  intro Tt hT Xt
  obtain ⟨v, st₀, t, T', L, h0, X', hL, e1, e2, ⟨⟨v', h', hv, hq, hP1⟩, hz, hk1⟩, stp⟩ := run Tt hT Xt
  cases hv
  rw [h0] at hz hk1
  obtain ⟨t2, a1, b1⟩ := kk v h' hq p e s m args below meth c R T'.heap (locs ++ L) ls cells slots Q C X (by rw [e1]; exact hP1)
    ⟨Nat.le_trans hS.1 (by rw [e1]; exact hz), fun q h1 h2 => by rw [e1, hk1 q (Nat.lt_of_lt_of_le h1 hS.1) h2]; exact hS.2.1 q h1 h2, fun q hq => by
      rcases List.mem_append.mp hq with w | w
      · exact hS.2.2 q w
      · exact hL q w⟩ hl hc T' rfl X'
  exact ⟨t2, stp t2 a1, b1⟩
theorem g_cv0i {y : MethodName} {cc' : ByteArray} {nL' d' ci k idx : Nat} {rt' : Option FieldType} {x : Int32} {h' : Hp} (pc' : Nat) (hp : pc + 3 = pc') (hw : CV own idx y cc' nL' rt' 0 ci) (hd : decode cc pc = .ok (.invokevirtual idx, 3)) (hM : Rti V d' y cc' nL' rt' (rf V k :: []) h x h') (hdd : d' < d) (hk : Ob V k ci) (hr : (st.map fun v => v.category).sum ≤ 8) (kk : G V E d own cc nL rt pc' lv (.int x :: st) h' post) : G V E d own cc nL rt pc lv (rf V k :: st) h post := by
  subst hp
  refine g_callV hw hM hdd hk rfl rfl hr hd (fun v g hq => ?_)
  obtain ⟨rfl, rfl⟩ := hq
  exact kk
theorem g_cv0l {y : MethodName} {cc' : ByteArray} {nL' d' ci k idx : Nat} {rt' : Option FieldType} {x : Int64} {h' : Hp} (pc' : Nat) (hp : pc + 3 = pc') (hw : CV own idx y cc' nL' rt' 0 ci) (hd : decode cc pc = .ok (.invokevirtual idx, 3)) (hM : Rtl V d' y cc' nL' rt' (rf V k :: []) h x h') (hdd : d' < d) (hk : Ob V k ci) (hr : (st.map fun v => v.category).sum ≤ 8) (kk : G V E d own cc nL rt pc' lv (.long x :: st) h' post) : G V E d own cc nL rt pc lv (rf V k :: st) h post := by
  subst hp
  refine g_callV hw hM hdd hk rfl rfl hr hd (fun v g hq => ?_)
  obtain ⟨rfl, rfl⟩ := hq
  exact kk
theorem g_cv0v {y : MethodName} {cc' : ByteArray} {nL' d' ci k idx : Nat} {rt' : Option FieldType} {h' : Hp} (pc' : Nat) (hp : pc + 3 = pc') (hw : CV own idx y cc' nL' rt' 0 ci) (hd : decode cc pc = .ok (.invokevirtual idx, 3)) (hM : Rtv V d' y cc' nL' rt' (rf V k :: []) h h') (hdd : d' < d) (hk : Ob V k ci) (hr : (st.map fun v => v.category).sum ≤ 8) (kk : G V E d own cc nL rt pc' lv (st) h' post) : G V E d own cc nL rt pc lv (rf V k :: st) h post := by
  subst hp
  refine g_callV hw hM hdd hk rfl rfl hr hd (fun v g hq => ?_)
  obtain ⟨rfl, rfl⟩ := hq
  exact kk
theorem g_cv1i {y : MethodName} {cc' : ByteArray} {nL' d' ci k idx : Nat} {rt' : Option FieldType} {a1 : Value} {x : Int32} {h' : Hp} (pc' : Nat) (hp : pc + 3 = pc') (hw : CV own idx y cc' nL' rt' 1 ci) (hd : decode cc pc = .ok (.invokevirtual idx, 3)) (hM : Rti V d' y cc' nL' rt' (rf V k :: [a1]) h x h') (hdd : d' < d) (hk : Ob V k ci) (hr : (st.map fun v => v.category).sum ≤ 8) (kk : G V E d own cc nL rt pc' lv (.int x :: st) h' post) : G V E d own cc nL rt pc lv (a1 :: rf V k :: st) h post := by
  subst hp
  refine g_callV hw hM hdd hk rfl rfl hr hd (fun v g hq => ?_)
  obtain ⟨rfl, rfl⟩ := hq
  exact kk
theorem g_cv1l {y : MethodName} {cc' : ByteArray} {nL' d' ci k idx : Nat} {rt' : Option FieldType} {a1 : Value} {x : Int64} {h' : Hp} (pc' : Nat) (hp : pc + 3 = pc') (hw : CV own idx y cc' nL' rt' 1 ci) (hd : decode cc pc = .ok (.invokevirtual idx, 3)) (hM : Rtl V d' y cc' nL' rt' (rf V k :: [a1]) h x h') (hdd : d' < d) (hk : Ob V k ci) (hr : (st.map fun v => v.category).sum ≤ 8) (kk : G V E d own cc nL rt pc' lv (.long x :: st) h' post) : G V E d own cc nL rt pc lv (a1 :: rf V k :: st) h post := by
  subst hp
  refine g_callV hw hM hdd hk rfl rfl hr hd (fun v g hq => ?_)
  obtain ⟨rfl, rfl⟩ := hq
  exact kk
theorem g_cv1v {y : MethodName} {cc' : ByteArray} {nL' d' ci k idx : Nat} {rt' : Option FieldType} {a1 : Value} {h' : Hp} (pc' : Nat) (hp : pc + 3 = pc') (hw : CV own idx y cc' nL' rt' 1 ci) (hd : decode cc pc = .ok (.invokevirtual idx, 3)) (hM : Rtv V d' y cc' nL' rt' (rf V k :: [a1]) h h') (hdd : d' < d) (hk : Ob V k ci) (hr : (st.map fun v => v.category).sum ≤ 8) (kk : G V E d own cc nL rt pc' lv (st) h' post) : G V E d own cc nL rt pc lv (a1 :: rf V k :: st) h post := by
  subst hp
  refine g_callV hw hM hdd hk rfl rfl hr hd (fun v g hq => ?_)
  obtain ⟨rfl, rfl⟩ := hq
  exact kk
theorem g_cs1i {y : MethodName} {cc' : ByteArray} {nL' d' idx : Nat} {rt' : Option FieldType} {a1 : Value} {x : Int32} {h' : Hp} (pc' : Nat) (hp : pc + 3 = pc') (hw : CS own idx y cc' nL' rt' 1) (hd : decode cc pc = .ok (.invokestatic idx, 3)) (hM : Rti V d' y cc' nL' rt' [a1] h x h') (hdd : d' < d) (hr : (st.map fun v => v.category).sum ≤ 8) (kk : G V E d own cc nL rt pc' lv (.int x :: st) h' post) : G V E d own cc nL rt pc lv (a1 :: st) h post := by
  subst hp
  refine g_callS hw hM hdd rfl rfl hr hd (fun v g hq => ?_)
  obtain ⟨rfl, rfl⟩ := hq
  exact kk
theorem g_cs1v {y : MethodName} {cc' : ByteArray} {nL' d' idx : Nat} {rt' : Option FieldType} {a1 : Value} {h' : Hp} (pc' : Nat) (hp : pc + 3 = pc') (hw : CS own idx y cc' nL' rt' 1) (hd : decode cc pc = .ok (.invokestatic idx, 3)) (hM : Rtv V d' y cc' nL' rt' [a1] h h') (hdd : d' < d) (hr : (st.map fun v => v.category).sum ≤ 8) (kk : G V E d own cc nL rt pc' lv (st) h' post) : G V E d own cc nL rt pc lv (a1 :: st) h post := by
  subst hp
  refine g_callS hw hM hdd rfl rfl hr hd (fun v g hq => ?_)
  obtain ⟨rfl, rfl⟩ := hq
  exact kk
theorem g_cv2i {y : MethodName} {cc' : ByteArray} {nL' d' ci k idx : Nat} {rt' : Option FieldType} {a1 a2 : Value} {x : Int32} {h' : Hp} (pc' : Nat) (hp : pc + 3 = pc') (hw : CV own idx y cc' nL' rt' 2 ci) (hd : decode cc pc = .ok (.invokevirtual idx, 3)) (hM : Rti V d' y cc' nL' rt' (rf V k :: [a1, a2]) h x h') (hdd : d' < d) (hk : Ob V k ci) (hr : (st.map fun v => v.category).sum ≤ 8) (kk : G V E d own cc nL rt pc' lv (.int x :: st) h' post) : G V E d own cc nL rt pc lv (a2 :: a1 :: rf V k :: st) h post := by
  subst hp
  refine g_callV hw hM hdd hk rfl rfl hr hd (fun v g hq => ?_)
  obtain ⟨rfl, rfl⟩ := hq
  exact kk
theorem g_cv2l {y : MethodName} {cc' : ByteArray} {nL' d' ci k idx : Nat} {rt' : Option FieldType} {a1 a2 : Value} {x : Int64} {h' : Hp} (pc' : Nat) (hp : pc + 3 = pc') (hw : CV own idx y cc' nL' rt' 2 ci) (hd : decode cc pc = .ok (.invokevirtual idx, 3)) (hM : Rtl V d' y cc' nL' rt' (rf V k :: [a1, a2]) h x h') (hdd : d' < d) (hk : Ob V k ci) (hr : (st.map fun v => v.category).sum ≤ 8) (kk : G V E d own cc nL rt pc' lv (.long x :: st) h' post) : G V E d own cc nL rt pc lv (a2 :: a1 :: rf V k :: st) h post := by
  subst hp
  refine g_callV hw hM hdd hk rfl rfl hr hd (fun v g hq => ?_)
  obtain ⟨rfl, rfl⟩ := hq
  exact kk
theorem g_cv2v {y : MethodName} {cc' : ByteArray} {nL' d' ci k idx : Nat} {rt' : Option FieldType} {a1 a2 : Value} {h' : Hp} (pc' : Nat) (hp : pc + 3 = pc') (hw : CV own idx y cc' nL' rt' 2 ci) (hd : decode cc pc = .ok (.invokevirtual idx, 3)) (hM : Rtv V d' y cc' nL' rt' (rf V k :: [a1, a2]) h h') (hdd : d' < d) (hk : Ob V k ci) (hr : (st.map fun v => v.category).sum ≤ 8) (kk : G V E d own cc nL rt pc' lv (st) h' post) : G V E d own cc nL rt pc lv (a2 :: a1 :: rf V k :: st) h post := by
  subst hp
  refine g_callV hw hM hdd hk rfl rfl hr hd (fun v g hq => ?_)
  obtain ⟨rfl, rfl⟩ := hq
  exact kk
theorem g_cs2i {y : MethodName} {cc' : ByteArray} {nL' d' idx : Nat} {rt' : Option FieldType} {a1 a2 : Value} {x : Int32} {h' : Hp} (pc' : Nat) (hp : pc + 3 = pc') (hw : CS own idx y cc' nL' rt' 2) (hd : decode cc pc = .ok (.invokestatic idx, 3)) (hM : Rti V d' y cc' nL' rt' [a1, a2] h x h') (hdd : d' < d) (hr : (st.map fun v => v.category).sum ≤ 8) (kk : G V E d own cc nL rt pc' lv (.int x :: st) h' post) : G V E d own cc nL rt pc lv (a2 :: a1 :: st) h post := by
  subst hp
  refine g_callS hw hM hdd rfl rfl hr hd (fun v g hq => ?_)
  obtain ⟨rfl, rfl⟩ := hq
  exact kk
theorem g_cs2v {y : MethodName} {cc' : ByteArray} {nL' d' idx : Nat} {rt' : Option FieldType} {a1 a2 : Value} {h' : Hp} (pc' : Nat) (hp : pc + 3 = pc') (hw : CS own idx y cc' nL' rt' 2) (hd : decode cc pc = .ok (.invokestatic idx, 3)) (hM : Rtv V d' y cc' nL' rt' [a1, a2] h h') (hdd : d' < d) (hr : (st.map fun v => v.category).sum ≤ 8) (kk : G V E d own cc nL rt pc' lv (st) h' post) : G V E d own cc nL rt pc lv (a2 :: a1 :: st) h post := by
  subst hp
  refine g_callS hw hM hdd rfl rfl hr hd (fun v g hq => ?_)
  obtain ⟨rfl, rfl⟩ := hq
  exact kk
theorem g_cv3i {y : MethodName} {cc' : ByteArray} {nL' d' ci k idx : Nat} {rt' : Option FieldType} {a1 a2 a3 : Value} {x : Int32} {h' : Hp} (pc' : Nat) (hp : pc + 3 = pc') (hw : CV own idx y cc' nL' rt' 3 ci) (hd : decode cc pc = .ok (.invokevirtual idx, 3)) (hM : Rti V d' y cc' nL' rt' (rf V k :: [a1, a2, a3]) h x h') (hdd : d' < d) (hk : Ob V k ci) (hr : (st.map fun v => v.category).sum ≤ 8) (kk : G V E d own cc nL rt pc' lv (.int x :: st) h' post) : G V E d own cc nL rt pc lv (a3 :: a2 :: a1 :: rf V k :: st) h post := by
  subst hp
  refine g_callV hw hM hdd hk rfl rfl hr hd (fun v g hq => ?_)
  obtain ⟨rfl, rfl⟩ := hq
  exact kk
theorem g_cv3l {y : MethodName} {cc' : ByteArray} {nL' d' ci k idx : Nat} {rt' : Option FieldType} {a1 a2 a3 : Value} {x : Int64} {h' : Hp} (pc' : Nat) (hp : pc + 3 = pc') (hw : CV own idx y cc' nL' rt' 3 ci) (hd : decode cc pc = .ok (.invokevirtual idx, 3)) (hM : Rtl V d' y cc' nL' rt' (rf V k :: [a1, a2, a3]) h x h') (hdd : d' < d) (hk : Ob V k ci) (hr : (st.map fun v => v.category).sum ≤ 8) (kk : G V E d own cc nL rt pc' lv (.long x :: st) h' post) : G V E d own cc nL rt pc lv (a3 :: a2 :: a1 :: rf V k :: st) h post := by
  subst hp
  refine g_callV hw hM hdd hk rfl rfl hr hd (fun v g hq => ?_)
  obtain ⟨rfl, rfl⟩ := hq
  exact kk
theorem g_cv3v {y : MethodName} {cc' : ByteArray} {nL' d' ci k idx : Nat} {rt' : Option FieldType} {a1 a2 a3 : Value} {h' : Hp} (pc' : Nat) (hp : pc + 3 = pc') (hw : CV own idx y cc' nL' rt' 3 ci) (hd : decode cc pc = .ok (.invokevirtual idx, 3)) (hM : Rtv V d' y cc' nL' rt' (rf V k :: [a1, a2, a3]) h h') (hdd : d' < d) (hk : Ob V k ci) (hr : (st.map fun v => v.category).sum ≤ 8) (kk : G V E d own cc nL rt pc' lv (st) h' post) : G V E d own cc nL rt pc lv (a3 :: a2 :: a1 :: rf V k :: st) h post := by
  subst hp
  refine g_callV hw hM hdd hk rfl rfl hr hd (fun v g hq => ?_)
  obtain ⟨rfl, rfl⟩ := hq
  exact kk
theorem g_cs3i {y : MethodName} {cc' : ByteArray} {nL' d' idx : Nat} {rt' : Option FieldType} {a1 a2 a3 : Value} {x : Int32} {h' : Hp} (pc' : Nat) (hp : pc + 3 = pc') (hw : CS own idx y cc' nL' rt' 3) (hd : decode cc pc = .ok (.invokestatic idx, 3)) (hM : Rti V d' y cc' nL' rt' [a1, a2, a3] h x h') (hdd : d' < d) (hr : (st.map fun v => v.category).sum ≤ 8) (kk : G V E d own cc nL rt pc' lv (.int x :: st) h' post) : G V E d own cc nL rt pc lv (a3 :: a2 :: a1 :: st) h post := by
  subst hp
  refine g_callS hw hM hdd rfl rfl hr hd (fun v g hq => ?_)
  obtain ⟨rfl, rfl⟩ := hq
  exact kk
theorem g_cs3v {y : MethodName} {cc' : ByteArray} {nL' d' idx : Nat} {rt' : Option FieldType} {a1 a2 a3 : Value} {h' : Hp} (pc' : Nat) (hp : pc + 3 = pc') (hw : CS own idx y cc' nL' rt' 3) (hd : decode cc pc = .ok (.invokestatic idx, 3)) (hM : Rtv V d' y cc' nL' rt' [a1, a2, a3] h h') (hdd : d' < d) (hr : (st.map fun v => v.category).sum ≤ 8) (kk : G V E d own cc nL rt pc' lv (st) h' post) : G V E d own cc nL rt pc lv (a3 :: a2 :: a1 :: st) h post := by
  subst hp
  refine g_callS hw hM hdd rfl rfl hr hd (fun v g hq => ?_)
  obtain ⟨rfl, rfl⟩ := hq
  exact kk
theorem g_cv4i {y : MethodName} {cc' : ByteArray} {nL' d' ci k idx : Nat} {rt' : Option FieldType} {a1 a2 a3 a4 : Value} {x : Int32} {h' : Hp} (pc' : Nat) (hp : pc + 3 = pc') (hw : CV own idx y cc' nL' rt' 4 ci) (hd : decode cc pc = .ok (.invokevirtual idx, 3)) (hM : Rti V d' y cc' nL' rt' (rf V k :: [a1, a2, a3, a4]) h x h') (hdd : d' < d) (hk : Ob V k ci) (hr : (st.map fun v => v.category).sum ≤ 8) (kk : G V E d own cc nL rt pc' lv (.int x :: st) h' post) : G V E d own cc nL rt pc lv (a4 :: a3 :: a2 :: a1 :: rf V k :: st) h post := by
  subst hp
  refine g_callV hw hM hdd hk rfl rfl hr hd (fun v g hq => ?_)
  obtain ⟨rfl, rfl⟩ := hq
  exact kk
theorem g_cv4l {y : MethodName} {cc' : ByteArray} {nL' d' ci k idx : Nat} {rt' : Option FieldType} {a1 a2 a3 a4 : Value} {x : Int64} {h' : Hp} (pc' : Nat) (hp : pc + 3 = pc') (hw : CV own idx y cc' nL' rt' 4 ci) (hd : decode cc pc = .ok (.invokevirtual idx, 3)) (hM : Rtl V d' y cc' nL' rt' (rf V k :: [a1, a2, a3, a4]) h x h') (hdd : d' < d) (hk : Ob V k ci) (hr : (st.map fun v => v.category).sum ≤ 8) (kk : G V E d own cc nL rt pc' lv (.long x :: st) h' post) : G V E d own cc nL rt pc lv (a4 :: a3 :: a2 :: a1 :: rf V k :: st) h post := by
  subst hp
  refine g_callV hw hM hdd hk rfl rfl hr hd (fun v g hq => ?_)
  obtain ⟨rfl, rfl⟩ := hq
  exact kk
theorem g_cv4v {y : MethodName} {cc' : ByteArray} {nL' d' ci k idx : Nat} {rt' : Option FieldType} {a1 a2 a3 a4 : Value} {h' : Hp} (pc' : Nat) (hp : pc + 3 = pc') (hw : CV own idx y cc' nL' rt' 4 ci) (hd : decode cc pc = .ok (.invokevirtual idx, 3)) (hM : Rtv V d' y cc' nL' rt' (rf V k :: [a1, a2, a3, a4]) h h') (hdd : d' < d) (hk : Ob V k ci) (hr : (st.map fun v => v.category).sum ≤ 8) (kk : G V E d own cc nL rt pc' lv (st) h' post) : G V E d own cc nL rt pc lv (a4 :: a3 :: a2 :: a1 :: rf V k :: st) h post := by
  subst hp
  refine g_callV hw hM hdd hk rfl rfl hr hd (fun v g hq => ?_)
  obtain ⟨rfl, rfl⟩ := hq
  exact kk
theorem g_cs4i {y : MethodName} {cc' : ByteArray} {nL' d' idx : Nat} {rt' : Option FieldType} {a1 a2 a3 a4 : Value} {x : Int32} {h' : Hp} (pc' : Nat) (hp : pc + 3 = pc') (hw : CS own idx y cc' nL' rt' 4) (hd : decode cc pc = .ok (.invokestatic idx, 3)) (hM : Rti V d' y cc' nL' rt' [a1, a2, a3, a4] h x h') (hdd : d' < d) (hr : (st.map fun v => v.category).sum ≤ 8) (kk : G V E d own cc nL rt pc' lv (.int x :: st) h' post) : G V E d own cc nL rt pc lv (a4 :: a3 :: a2 :: a1 :: st) h post := by
  subst hp
  refine g_callS hw hM hdd rfl rfl hr hd (fun v g hq => ?_)
  obtain ⟨rfl, rfl⟩ := hq
  exact kk
theorem g_cs4v {y : MethodName} {cc' : ByteArray} {nL' d' idx : Nat} {rt' : Option FieldType} {a1 a2 a3 a4 : Value} {h' : Hp} (pc' : Nat) (hp : pc + 3 = pc') (hw : CS own idx y cc' nL' rt' 4) (hd : decode cc pc = .ok (.invokestatic idx, 3)) (hM : Rtv V d' y cc' nL' rt' [a1, a2, a3, a4] h h') (hdd : d' < d) (hr : (st.map fun v => v.category).sum ≤ 8) (kk : G V E d own cc nL rt pc' lv (st) h' post) : G V E d own cc nL rt pc lv (a4 :: a3 :: a2 :: a1 :: st) h post := by
  subst hp
  refine g_callS hw hM hdd rfl rfl hr hd (fun v g hq => ?_)
  obtain ⟨rfl, rfl⟩ := hq
  exact kk
end Fields
theorem ob_0 (V : Vt) : Ob V 0 8 := ⟨by decide, fun _ => ⟨_, rfl⟩⟩
theorem ob_1 (V : Vt) : Ob V 1 2 := ⟨by decide, fun _ => ⟨_, rfl⟩⟩
theorem ob_3 (V : Vt) : Ob V 3 1 := ⟨by decide, fun _ => ⟨_, rfl⟩⟩
theorem ob_10 (V : Vt) : Ob V 10 0 := ⟨by decide, fun _ => ⟨_, rfl⟩⟩
theorem ob_12 (V : Vt) : Ob V 12 5 := ⟨by decide, fun _ => ⟨_, rfl⟩⟩
theorem ob_15 (V : Vt) : Ob V 15 4 := ⟨by decide, fun _ => ⟨_, rfl⟩⟩
theorem ob_19 (V : Vt) : Ob V 19 3 := ⟨by decide, fun _ => ⟨_, rfl⟩⟩
theorem ob_21 (V : Vt) : Ob V 21 6 := ⟨by decide, fun _ => ⟨_, rfl⟩⟩
theorem ob_22 (V : Vt) : Ob V 22 9 := ⟨by decide, fun _ => ⟨_, rfl⟩⟩
theorem ob_tb (V : Vt) {i : Nat} (hi : i < 24) : Ob V (tb i) 7 := ⟨by unfold tb; omega, fun h => ⟨_, hc_tb V h i⟩⟩
theorem cw_RL_13 : CV RL 13 yX8_write cX8_write 2 (some .int) 1 8 := ⟨ml_RL_13, im_yX8_write, se_yX8_write, ini_RX8, cd_yX8_write, by decide +kernel, by decide, _, _, rfl⟩
theorem cw_RX8_74 : CV RX8 74 yX2_append cX2_append 2 none 1 2 := ⟨ml_RX8_74, im_yX2_append, se_yX2_append, ini_RX2, cd_yX2_append, by decide +kernel, by decide, _, _, rfl⟩
theorem cw_RL_18 : CV RL 18 yX8_wipe cX8_wipe 2 (some .int) 0 8 := ⟨ml_RL_18, im_yX8_wipe, se_yX8_wipe, ini_RX8, cd_yX8_wipe, by decide +kernel, by decide, _, _, rfl⟩
theorem cw_RL_23 : CV RL 23 yX8_fault cX8_fault 1 (some .int) 0 8 := ⟨ml_RL_23, im_yX8_fault, se_yX8_fault, ini_RX8, cd_yX8_fault, by decide +kernel, by decide, _, _, rfl⟩
theorem cw_RX8_78 : CV RX8 78 yX2_firstFault cX2_firstFault 4 (some .int) 0 2 := ⟨ml_RX8_78, im_yX2_firstFault, se_yX2_firstFault, ini_RX2, cd_yX2_firstFault, by decide +kernel, by decide, _, _, rfl⟩
theorem cw_RX2_19 : CV RX2 19 yX2_fits cX2_fits 6 (some .boolean) 3 2 := ⟨ml_RX2_19, im_yX2_fits, se_yX2_fits, ini_RX2, cd_yX2_fits, by decide +kernel, by decide, _, _, rfl⟩
theorem cw_RX2_27 : CS RX2 27 yX2_isFigure cX2_isFigure 3 (some .boolean) 3 := ⟨ml_RX2_27, st_yX2_isFigure, ini_RX2, cd_yX2_isFigure, by decide +kernel, by decide⟩
theorem cw_RX2_30 : CS RX2 30 yX2_fitsEnvoy cX2_fitsEnvoy 2 (some .boolean) 2 := ⟨ml_RX2_30, st_yX2_fitsEnvoy, ini_RX2, cd_yX2_fitsEnvoy, by decide +kernel, by decide⟩
theorem cw_RX2_34 : CS RX2 34 yX2_fitsClause cX2_fitsClause 3 (some .boolean) 3 := ⟨ml_RX2_34, st_yX2_fitsClause, ini_RX2, cd_yX2_fitsClause, by decide +kernel, by decide⟩
theorem cw_RX2_23 : CS RX2 23 yX2_isAtEndOfPart cX2_isAtEndOfPart 1 (some .boolean) 1 := ⟨ml_RX2_23, st_yX2_isAtEndOfPart, ini_RX2, cd_yX2_isAtEndOfPart, by decide +kernel, by decide⟩
theorem cw_RL_27 : CV RL 27 yX8_talk cX8_talk 1 (some .int) 0 8 := ⟨ml_RL_27, im_yX8_talk, se_yX8_talk, ini_RX8, cd_yX8_talk, by decide +kernel, by decide, _, _, rfl⟩
theorem cw_RX8_82 : CV RX8 82 yX2_tellInto cX2_tellInto 3 none 1 2 := ⟨ml_RX8_82, im_yX2_tellInto, se_yX2_tellInto, ini_RX2, cd_yX2_tellInto, by decide +kernel, by decide, _, _, rfl⟩
theorem cw_RX2_37 : CV RX2 37 yX2_figure cX2_figure 2 (some .int) 1 2 := ⟨ml_RX2_37, im_yX2_figure, se_yX2_figure, ini_RX2, cd_yX2_figure, by decide +kernel, by decide, _, _, rfl⟩
theorem cw_RX2_41 : CV RX2 41 yX1_begin cX1_begin 3 none 2 1 := ⟨ml_RX2_41, im_yX1_begin, se_yX1_begin, ini_RX1, cd_yX1_begin, by decide +kernel, by decide, _, _, rfl⟩
theorem cw_RX2_47 : CV RX2 47 yX1_addEnvoy cX1_addEnvoy 4 none 3 1 := ⟨ml_RX2_47, im_yX1_addEnvoy, se_yX1_addEnvoy, ini_RX1, cd_yX1_addEnvoy, by decide +kernel, by decide, _, _, rfl⟩
theorem cw_RX2_51 : CV RX2 51 yX1_addClause cX1_addClause 4 none 3 1 := ⟨ml_RX2_51, im_yX1_addClause, se_yX1_addClause, ini_RX1, cd_yX1_addClause, by decide +kernel, by decide, _, _, rfl⟩
theorem cw_RX8_85 : CV RX8 85 yX7_layAnew cX7_layAnew 2 none 0 7 := ⟨ml_RX8_85, im_yX7_layAnew, se_yX7_layAnew, ini_RX7, cd_yX7_layAnew, by decide +kernel, by decide, _, _, rfl⟩
theorem cw_RX8_88 : CV RX8 88 yX0_forgetAll cX0_forgetAll 1 none 0 0 := ⟨ml_RX8_88, im_yX0_forgetAll, se_yX0_forgetAll, ini_RX0, cd_yX0_forgetAll, by decide +kernel, by decide, _, _, rfl⟩
theorem cw_RX8_91 : CV RX8 91 yX5_forgetAll cX5_forgetAll 2 none 0 5 := ⟨ml_RX8_91, im_yX5_forgetAll, se_yX5_forgetAll, ini_RX5, cd_yX5_forgetAll, by decide +kernel, by decide, _, _, rfl⟩
theorem cw_RL_31 : CV RL 31 yX8_about cX8_about 2 (some .int) 1 8 := ⟨ml_RL_31, im_yX8_about, se_yX8_about, ini_RX8, cd_yX8_about, by decide +kernel, by decide, _, _, rfl⟩
theorem cw_RX8_113 : CV RX8 113 yX7_sayable cX7_sayable 3 (some .int) 0 7 := ⟨ml_RX8_113, im_yX7_sayable, se_yX7_sayable, ini_RX7, cd_yX7_sayable, by decide +kernel, by decide, _, _, rfl⟩
theorem cw_RX7_75 : CV RX7 75 yX7_canBeSaid cX7_canBeSaid 2 (some .boolean) 1 7 := ⟨ml_RX7_75, im_yX7_canBeSaid, se_yX7_canBeSaid, ini_RX7, cd_yX7_canBeSaid, by decide +kernel, by decide, _, _, rfl⟩
theorem cw_RX7_49 : CV RX7 49 yX1_hasClause cX1_hasClause 2 (some .boolean) 1 1 := ⟨ml_RX7_49, im_yX1_hasClause, se_yX1_hasClause, ini_RX1, cd_yX1_hasClause, by decide +kernel, by decide, _, _, rfl⟩
theorem cw_RX7_53 : CV RX7 53 yX7_isBound cX7_isBound 2 (some .boolean) 1 7 := ⟨ml_RX7_53, im_yX7_isBound, se_yX7_isBound, ini_RX7, cd_yX7_isBound, by decide +kernel, by decide, _, _, rfl⟩
theorem cw_RX7_59 : CV RX7 59 yX7_eats cX7_eats 2 (some .boolean) 1 7 := ⟨ml_RX7_59, im_yX7_eats, se_yX7_eats, ini_RX7, cd_yX7_eats, by decide +kernel, by decide, _, _, rfl⟩
theorem cw_RX7_68 : CS RX7 68 yX1_wordsAt cX1_wordsAt 1 (some .int) 1 := ⟨ml_RX7_68, st_yX1_wordsAt, ini_RX1, cd_yX1_wordsAt, by decide +kernel, by decide⟩
theorem cw_RL_35 : CV RL 35 yX8_envoy cX8_envoy 3 (some .int) 2 8 := ⟨ml_RL_35, im_yX8_envoy, se_yX8_envoy, ini_RX8, cd_yX8_envoy, by decide +kernel, by decide, _, _, rfl⟩
theorem cw_RX8_120 : CV RX8 120 yX1_hasEnvoy cX1_hasEnvoy 2 (some .boolean) 1 1 := ⟨ml_RX8_120, im_yX1_hasEnvoy, se_yX1_hasEnvoy, ini_RX1, cd_yX1_hasEnvoy, by decide +kernel, by decide, _, _, rfl⟩
theorem cw_RX8_137 : CV RX8 137 yX1_pain cX1_pain 3 (some .int) 2 1 := ⟨ml_RX8_137, im_yX1_pain, se_yX1_pain, ini_RX1, cd_yX1_pain, by decide +kernel, by decide, _, _, rfl⟩
theorem cw_RX1_47 : CS RX1 47 yX1_painFor cX1_painFor 4 (some .int) 3 := ⟨ml_RX1_47, st_yX1_painFor, ini_RX1, cd_yX1_painFor, by decide +kernel, by decide⟩
theorem cw_RX8_141 : CV RX8 141 yX7_hadBread cX7_hadBread 2 (some .boolean) 1 7 := ⟨ml_RX8_141, im_yX7_hadBread, se_yX7_hadBread, ini_RX7, cd_yX7_hadBread, by decide +kernel, by decide, _, _, rfl⟩
theorem cw_RL_40 : CV RL 40 yX8_clause cX8_clause 3 (some .int) 2 8 := ⟨ml_RL_40, im_yX8_clause, se_yX8_clause, ini_RX8, cd_yX8_clause, by decide +kernel, by decide, _, _, rfl⟩
theorem cw_RX8_144 : CV RX8 144 yX1_hasClause cX1_hasClause 2 (some .boolean) 1 1 := ⟨ml_RX8_144, im_yX1_hasClause, se_yX1_hasClause, ini_RX1, cd_yX1_hasClause, by decide +kernel, by decide, _, _, rfl⟩
theorem cw_RX8_156 : CV RX8 156 yX1_worth cX1_worth 2 (some .int) 1 1 := ⟨ml_RX8_156, im_yX1_worth, se_yX1_worth, ini_RX1, cd_yX1_worth, by decide +kernel, by decide, _, _, rfl⟩
theorem cw_RL_44 : CV RL 44 yX8_bite cX8_bite 1 (some .int) 0 8 := ⟨ml_RL_44, im_yX8_bite, se_yX8_bite, ini_RX8, cd_yX8_bite, by decide +kernel, by decide, _, _, rfl⟩
theorem cw_RX8_160 : CV RX8 160 yX0_remember cX0_remember 2 none 1 0 := ⟨ml_RX8_160, im_yX0_remember, se_yX0_remember, ini_RX0, cd_yX0_remember, by decide +kernel, by decide, _, _, rfl⟩
theorem cw_RX0_27 : CV RX0 27 yX7_copyFrom cX7_copyFrom 3 none 1 7 := ⟨ml_RX0_27, im_yX7_copyFrom, se_yX7_copyFrom, ini_RX7, cd_yX7_copyFrom, by decide +kernel, by decide, _, _, rfl⟩
theorem cw_RX8_164 : CV RX8 164 yX7_takeBite cX7_takeBite 2 none 0 7 := ⟨ml_RX8_164, im_yX7_takeBite, se_yX7_takeBite, ini_RX7, cd_yX7_takeBite, by decide +kernel, by decide, _, _, rfl⟩
theorem cw_RX7_78 : CV RX7 78 yX1_pain cX1_pain 3 (some .int) 2 1 := ⟨ml_RX7_78, im_yX1_pain, se_yX1_pain, ini_RX1, cd_yX1_pain, by decide +kernel, by decide, _, _, rfl⟩
theorem cw_RX7_82 : CV RX7 82 yX1_tearsToStop cX1_tearsToStop 2 (some .int) 1 1 := ⟨ml_RX7_82, im_yX1_tearsToStop, se_yX1_tearsToStop, ini_RX1, cd_yX1_tearsToStop, by decide +kernel, by decide, _, _, rfl⟩
theorem cw_RL_48 : CV RL 48 yX8_say cX8_say 2 (some .int) 1 8 := ⟨ml_RL_48, im_yX8_say, se_yX8_say, ini_RX8, cd_yX8_say, by decide +kernel, by decide, _, _, rfl⟩
theorem cw_RX8_167 : CV RX8 167 yX7_canBeSaid cX7_canBeSaid 2 (some .boolean) 1 7 := ⟨ml_RX8_167, im_yX7_canBeSaid, se_yX7_canBeSaid, ini_RX7, cd_yX7_canBeSaid, by decide +kernel, by decide, _, _, rfl⟩
theorem cw_RX8_170 : CV RX8 170 yX7_bind cX7_bind 2 none 1 7 := ⟨ml_RX8_170, im_yX7_bind, se_yX7_bind, ini_RX7, cd_yX7_bind, by decide +kernel, by decide, _, _, rfl⟩
theorem cw_RL_52 : CV RL 52 yX8_spice cX8_spice 1 (some .int) 0 8 := ⟨ml_RL_52, im_yX8_spice, se_yX8_spice, ini_RX8, cd_yX8_spice, by decide +kernel, by decide, _, _, rfl⟩
theorem cw_RX8_173 : CV RX8 173 yX7_putSeed cX7_putSeed 1 none 0 7 := ⟨ml_RX8_173, im_yX7_putSeed, se_yX7_putSeed, ini_RX7, cd_yX7_putSeed, by decide +kernel, by decide, _, _, rfl⟩
theorem cw_RL_56 : CV RL 56 yX8_bread cX8_bread 2 (some .int) 1 8 := ⟨ml_RL_56, im_yX8_bread, se_yX8_bread, ini_RX8, cd_yX8_bread, by decide +kernel, by decide, _, _, rfl⟩
theorem cw_RX8_176 : CV RX8 176 yX7_eats cX7_eats 2 (some .boolean) 1 7 := ⟨ml_RX8_176, im_yX7_eats, se_yX7_eats, ini_RX7, cd_yX7_eats, by decide +kernel, by decide, _, _, rfl⟩
theorem cw_RX8_179 : CV RX8 179 yX7_takeBread cX7_takeBread 2 none 1 7 := ⟨ml_RX8_179, im_yX7_takeBread, se_yX7_takeBread, ini_RX7, cd_yX7_takeBread, by decide +kernel, by decide, _, _, rfl⟩
theorem cw_RL_60 : CV RL 60 yX8_undo cX8_undo 1 (some .int) 0 8 := ⟨ml_RL_60, im_yX8_undo, se_yX8_undo, ini_RX8, cd_yX8_undo, by decide +kernel, by decide, _, _, rfl⟩
theorem cw_RX8_182 : CV RX8 182 yX0_takeBack cX0_takeBack 2 none 1 0 := ⟨ml_RX8_182, im_yX0_takeBack, se_yX0_takeBack, ini_RX0, cd_yX0_takeBack, by decide +kernel, by decide, _, _, rfl⟩
theorem cw_RL_64 : CV RL 64 yX8_lasts cX8_lasts 2 (some .int) 0 8 := ⟨ml_RL_64, im_yX8_lasts, se_yX8_lasts, ini_RX8, cd_yX8_lasts, by decide +kernel, by decide, _, _, rfl⟩
theorem cw_RX8_185 : CV RX8 185 yX8_bitesTillNoneOf cX8_bitesTillNoneOf 3 (some .int) 1 8 := ⟨ml_RX8_185, im_yX8_bitesTillNoneOf, se_yX8_bitesTillNoneOf, ini_RX8, cd_yX8_bitesTillNoneOf, by decide +kernel, by decide, _, _, rfl⟩
theorem cw_RX8_188 : CV RX8 188 yX7_copyFrom cX7_copyFrom 3 none 1 7 := ⟨ml_RX8_188, im_yX7_copyFrom, se_yX7_copyFrom, ini_RX7, cd_yX7_copyFrom, by decide +kernel, by decide, _, _, rfl⟩
theorem cw_RL_68 : CV RL 68 yX8_bears cX8_bears 2 (some .int) 1 8 := ⟨ml_RL_68, im_yX8_bears, se_yX8_bears, ini_RX8, cd_yX8_bears, by decide +kernel, by decide, _, _, rfl⟩
theorem cw_RL_72 : CV RL 72 yX8_best cX8_best 4 (some .int) 2 8 := ⟨ml_RL_72, im_yX8_best, se_yX8_best, ini_RX8, cd_yX8_best, by decide +kernel, by decide, _, _, rfl⟩
theorem cw_RX8_191 : CV RX8 191 yX3_mostBy cX3_mostBy 4 (some .int) 3 3 := ⟨ml_RX8_191, im_yX3_mostBy, se_yX3_mostBy, ini_RX3, cd_yX3_mostBy, by decide +kernel, by decide, _, _, rfl⟩
theorem cw_RX3_43 : CV RX3 43 yX7_copyFrom cX7_copyFrom 3 none 1 7 := ⟨ml_RX3_43, im_yX7_copyFrom, se_yX7_copyFrom, ini_RX7, cd_yX7_copyFrom, by decide +kernel, by decide, _, _, rfl⟩
theorem cw_RX3_47 : CV RX3 47 yX3_goOn cX3_goOn 7 none 3 3 := ⟨ml_RX3_47, im_yX3_goOn, se_yX3_goOn, ini_RX3, cd_yX3_goOn, by decide +kernel, by decide, _, _, rfl⟩
theorem cw_RX3_51 : CV RX3 51 yX7_takeBite cX7_takeBite 2 none 0 7 := ⟨ml_RX3_51, im_yX7_takeBite, se_yX7_takeBite, ini_RX7, cd_yX7_takeBite, by decide +kernel, by decide, _, _, rfl⟩
theorem cw_RX3_59 : CV RX3 59 yX7_canBeSaid cX7_canBeSaid 2 (some .boolean) 1 7 := ⟨ml_RX3_59, im_yX7_canBeSaid, se_yX7_canBeSaid, ini_RX7, cd_yX7_canBeSaid, by decide +kernel, by decide, _, _, rfl⟩
theorem cw_RX3_63 : CV RX3 63 yX7_bind cX7_bind 2 none 1 7 := ⟨ml_RX3_63, im_yX7_bind, se_yX7_bind, ini_RX7, cd_yX7_bind, by decide +kernel, by decide, _, _, rfl⟩
theorem cw_RX3_67 : CV RX3 67 yX1_worth cX1_worth 2 (some .int) 1 1 := ⟨ml_RX3_67, im_yX1_worth, se_yX1_worth, ini_RX1, cd_yX1_worth, by decide +kernel, by decide, _, _, rfl⟩
theorem cw_RL_77 : CV RL 77 yX8_hot cX8_hot 5 (some .int) 2 8 := ⟨ml_RL_77, im_yX8_hot, se_yX8_hot, ini_RX8, cd_yX8_hot, by decide +kernel, by decide, _, _, rfl⟩
theorem cw_RX8_198 : CV RX8 198 yX8_canBeSaidFrom cX8_canBeSaidFrom 5 (some .boolean) 3 8 := ⟨ml_RX8_198, im_yX8_canBeSaidFrom, se_yX8_canBeSaidFrom, ini_RX8, cd_yX8_canBeSaidFrom, by decide +kernel, by decide, _, _, rfl⟩
theorem cw_RL_81 : CV RL 81 yX8_spiceFor cX8_spiceFor 3 (some .int) 1 8 := ⟨ml_RL_81, im_yX8_spiceFor, se_yX8_spiceFor, ini_RX8, cd_yX8_spiceFor, by decide +kernel, by decide, _, _, rfl⟩
theorem cw_RX8_202 : CV RX8 202 yX7_isBound cX7_isBound 2 (some .boolean) 1 7 := ⟨ml_RX8_202, im_yX7_isBound, se_yX7_isBound, ini_RX7, cd_yX7_isBound, by decide +kernel, by decide, _, _, rfl⟩
theorem cw_RL_85 : CV RL 85 yX8_judge cX8_judge 5 (some .int) 2 8 := ⟨ml_RL_85, im_yX8_judge, se_yX8_judge, ini_RX8, cd_yX8_judge, by decide +kernel, by decide, _, _, rfl⟩
theorem cw_RX8_205 : CS RX8 205 yX8_isRowOfFigures cX8_isRowOfFigures 4 (some .boolean) 2 := ⟨ml_RX8_205, st_yX8_isRowOfFigures, ini_RX8, cd_yX8_isRowOfFigures, by decide +kernel, by decide⟩
theorem cw_RX8_209 : CS RX8 209 yX8_powerOfTen cX8_powerOfTen 3 (some .int) 1 := ⟨ml_RX8_209, st_yX8_powerOfTen, ini_RX8, cd_yX8_powerOfTen, by decide +kernel, by decide⟩
theorem cw_RX8_212 : CV RX8 212 yX7_takeTurn cX7_takeTurn 3 (some .boolean) 1 7 := ⟨ml_RX8_212, im_yX7_takeTurn, se_yX7_takeTurn, ini_RX7, cd_yX7_takeTurn, by decide +kernel, by decide, _, _, rfl⟩
theorem cw_RX7_93 : CV RX7 93 yX7_changeBy cX7_changeBy 2 none 1 7 := ⟨ml_RX7_93, im_yX7_changeBy, se_yX7_changeBy, ini_RX7, cd_yX7_changeBy, by decide +kernel, by decide, _, _, rfl⟩
theorem cw_RX7_97 : CV RX7 97 yX7_takeBite cX7_takeBite 2 none 0 7 := ⟨ml_RX7_97, im_yX7_takeBite, se_yX7_takeBite, ini_RX7, cd_yX7_takeBite, by decide +kernel, by decide, _, _, rfl⟩
theorem cw_RX7_100 : CV RX7 100 yX7_putSeed cX7_putSeed 1 none 0 7 := ⟨ml_RX7_100, im_yX7_putSeed, se_yX7_putSeed, ini_RX7, cd_yX7_putSeed, by decide +kernel, by decide, _, _, rfl⟩
theorem cw_RX7_103 : CV RX7 103 yX7_bind cX7_bind 2 none 1 7 := ⟨ml_RX7_103, im_yX7_bind, se_yX7_bind, ini_RX7, cd_yX7_bind, by decide +kernel, by decide, _, _, rfl⟩
theorem cw_RL_89 : CV RL 89 yX8_share cX8_share 8 (some .int) 2 8 := ⟨ml_RL_89, im_yX8_share, se_yX8_share, ini_RX8, cd_yX8_share, by decide +kernel, by decide, _, _, rfl⟩
theorem cw_RX8_215 : CV RX8 215 yX1_clausesOf cX1_clausesOf 4 (some .int) 1 1 := ⟨ml_RX8_215, im_yX1_clausesOf, se_yX1_clausesOf, ini_RX1, cd_yX1_clausesOf, by decide +kernel, by decide, _, _, rfl⟩
theorem cw_RX8_218 : CV RX8 218 yX8_ordersWith cX8_ordersWith 3 (some .int) 1 8 := ⟨ml_RX8_218, im_yX8_ordersWith, se_yX8_ordersWith, ini_RX8, cd_yX8_ordersWith, by decide +kernel, by decide, _, _, rfl⟩
theorem cw_RX8_228 : CS RX8 228 yJ6_bitCount_0f7a4 cJ6_bitCount_0f7a4 1 (some .int) 1 := ⟨ml_RX8_228, st_yJ6_bitCount_0f7a4, ini_RJ6, cd_yJ6_bitCount_0f7a4, by decide +kernel, by decide⟩
theorem cw_RX8_221 : CS RX8 221 yX8_factorial cX8_factorial 3 (some .int) 1 := ⟨ml_RX8_221, st_yX8_factorial, ini_RX8, cd_yX8_factorial, by decide +kernel, by decide⟩
theorem cw_RX8_224 : CS RX8 224 yX8_fraction cX8_fraction 4 (some .int) 3 := ⟨ml_RX8_224, st_yX8_fraction, ini_RX8, cd_yX8_fraction, by decide +kernel, by decide⟩
theorem cw_RX8_233 : CS RX8 233 yX8_commonDivisor cX8_commonDivisor 6 (some .int) 2 := ⟨ml_RX8_233, st_yX8_commonDivisor, ini_RX8, cd_yX8_commonDivisor, by decide +kernel, by decide⟩
theorem cw_RL_93 : CV RL 93 yX8_see cX8_see 4 (some .int) 3 8 := ⟨ml_RL_93, im_yX8_see, se_yX8_see, ini_RX8, cd_yX8_see, by decide +kernel, by decide, _, _, rfl⟩
theorem cw_RX8_241 : CS RX8 241 yX8_isKind cX8_isKind 1 (some .boolean) 1 := ⟨ml_RX8_241, st_yX8_isKind, ini_RX8, cd_yX8_isKind, by decide +kernel, by decide⟩
theorem cw_RX8_244 : CV RX8 244 yX4_add cX4_add 4 none 3 4 := ⟨ml_RX8_244, im_yX4_add, se_yX4_add, ini_RX4, cd_yX4_add, by decide +kernel, by decide, _, _, rfl⟩
theorem cw_RL_98 : CV RL 98 yX8_unsee cX8_unsee 2 (some .int) 0 8 := ⟨ml_RL_98, im_yX8_unsee, se_yX8_unsee, ini_RX8, cd_yX8_unsee, by decide +kernel, by decide, _, _, rfl⟩
theorem cw_RL_102 : CV RL 102 yX8_palates cX8_palates 2 (some .int) 1 8 := ⟨ml_RL_102, im_yX8_palates, se_yX8_palates, ini_RX8, cd_yX8_palates, by decide +kernel, by decide, _, _, rfl⟩
theorem cw_RX8_248 : CV RX8 248 yX4_palatesThatFit cX4_palatesThatFit 4 (some .int) 1 4 := ⟨ml_RX8_248, im_yX4_palatesThatFit, se_yX4_palatesThatFit, ini_RX4, cd_yX4_palatesThatFit, by decide +kernel, by decide, _, _, rfl⟩
theorem cw_RX4_25 : CV RX4 25 yX4_fitsAll cX4_fitsAll 4 (some .boolean) 2 4 := ⟨ml_RX4_25, im_yX4_fitsAll, se_yX4_fitsAll, ini_RX4, cd_yX4_fitsAll, by decide +kernel, by decide, _, _, rfl⟩
theorem cw_RX4_29 : CS RX4 29 yX1_painFor cX1_painFor 4 (some .int) 3 := ⟨ml_RX4_29, st_yX1_painFor, ini_RX1, cd_yX1_painFor, by decide +kernel, by decide⟩
theorem cw_RL_106 : CV RL 106 yX8_rests cX8_rests 4 (some .int) 3 8 := ⟨ml_RL_106, im_yX8_rests, se_yX8_rests, ini_RX8, cd_yX8_rests, by decide +kernel, by decide, _, _, rfl⟩
theorem cw_RX8_251 : CV RX8 251 yX6_find cX6_find 6 none 3 6 := ⟨ml_RX8_251, im_yX6_find, se_yX6_find, ini_RX6, cd_yX6_find, by decide +kernel, by decide, _, _, rfl⟩
theorem cw_RX6_22 : CV RX6 22 yX6_isLeast cX6_isLeast 7 (some .boolean) 4 6 := ⟨ml_RX6_22, im_yX6_isLeast, se_yX6_isLeast, ini_RX6, cd_yX6_isLeast, by decide +kernel, by decide, _, _, rfl⟩
theorem cw_RX6_26 : CV RX6 26 yX6_loss cX6_loss 8 (some .int) 4 6 := ⟨ml_RX6_26, im_yX6_loss, se_yX6_loss, ini_RX6, cd_yX6_loss, by decide +kernel, by decide, _, _, rfl⟩
theorem cw_RX6_39 : CV RX6 39 yX1_pain cX1_pain 3 (some .int) 2 1 := ⟨ml_RX6_39, im_yX1_pain, se_yX1_pain, ini_RX1, cd_yX1_pain, by decide +kernel, by decide, _, _, rfl⟩
theorem cw_RL_110 : CV RL 110 yX8_chance cX8_chance 7 (some .int) 4 8 := ⟨ml_RL_110, im_yX8_chance, se_yX8_chance, ini_RX8, cd_yX8_chance, by decide +kernel, by decide, _, _, rfl⟩
theorem cw_RX8_258 : CV RX8 258 yX8_stillEats cX8_stillEats 6 (some .boolean) 3 8 := ⟨ml_RX8_258, im_yX8_stillEats, se_yX8_stillEats, ini_RX8, cd_yX8_stillEats, by decide +kernel, by decide, _, _, rfl⟩
theorem cw_RX8_265 : CV RX8 265 yX1_tearsToStop cX1_tearsToStop 2 (some .int) 1 1 := ⟨ml_RX8_265, im_yX1_tearsToStop, se_yX1_tearsToStop, ini_RX1, cd_yX1_tearsToStop, by decide +kernel, by decide, _, _, rfl⟩
theorem cw_RX8_261 : CS RX8 261 yX8_weight cX8_weight 5 (some .int) 3 := ⟨ml_RX8_261, st_yX8_weight, ini_RX8, cd_yX8_weight, by decide +kernel, by decide⟩
theorem cw_RL_117 : CV RL 117 yX8_seed cX8_seed 5 (some .long) 1 8 := ⟨ml_RL_117, im_yX8_seed, se_yX8_seed, ini_RX8, cd_yX8_seed, by decide +kernel, by decide, _, _, rfl⟩
theorem cw_RL_122 : CV RL 122 yX8_talks cX8_talks 3 (some .int) 1 8 := ⟨ml_RL_122, im_yX8_talks, se_yX8_talks, ini_RX8, cd_yX8_talks, by decide +kernel, by decide, _, _, rfl⟩
theorem cw_RX8_278 : CV RX8 278 yX8_takeDrawnTurn cX8_takeDrawnTurn 2 none 1 8 := ⟨ml_RX8_278, im_yX8_takeDrawnTurn, se_yX8_takeDrawnTurn, ini_RX8, cd_yX8_takeDrawnTurn, by decide +kernel, by decide, _, _, rfl⟩
theorem cw_RX8_281 : CV RX8 281 yX1_worthOf cX1_worthOf 4 (some .int) 1 1 := ⟨ml_RX8_281, im_yX1_worthOf, se_yX1_worthOf, ini_RX1, cd_yX1_worthOf, by decide +kernel, by decide, _, _, rfl⟩
theorem cw_RX1_43 : CV RX1 43 yX1_worth cX1_worth 2 (some .int) 1 1 := ⟨ml_RX1_43, im_yX1_worth, se_yX1_worth, ini_RX1, cd_yX1_worth, by decide +kernel, by decide, _, _, rfl⟩
theorem cw_RL_126 : CV RL 126 yX8_keep cX8_keep 2 (some .int) 1 8 := ⟨ml_RL_126, im_yX8_keep, se_yX8_keep, ini_RX8, cd_yX8_keep, by decide +kernel, by decide, _, _, rfl⟩
theorem cw_RX8_284 : CV RX8 284 yX5_put cX5_put 3 none 2 5 := ⟨ml_RX8_284, im_yX5_put, se_yX5_put, ini_RX5, cd_yX5_put, by decide +kernel, by decide, _, _, rfl⟩
theorem cw_RX5_24 : CV RX5 24 yX7_copyFrom cX7_copyFrom 3 none 1 7 := ⟨ml_RX5_24, im_yX7_copyFrom, se_yX7_copyFrom, ini_RX7, cd_yX7_copyFrom, by decide +kernel, by decide, _, _, rfl⟩
theorem cw_RL_130 : CV RL 130 yX8_again cX8_again 2 (some .int) 1 8 := ⟨ml_RL_130, im_yX8_again, se_yX8_again, ini_RX8, cd_yX8_again, by decide +kernel, by decide, _, _, rfl⟩
theorem cw_RL_17 : CV RL 17 yX9_write cX9_write 2 (some .int) 1 9 := ⟨ml_RL_17, im_yX9_write, se_yX9_write, ini_RX9, cd_yX9_write, by decide +kernel, by decide, _, _, rfl⟩
theorem cw_RX9_60 : CS RX9 60 yX9_in cX9_in 6 (some .boolean) 3 := ⟨ml_RX9_60, st_yX9_in, ini_RX9, cd_yX9_in, by decide +kernel, by decide⟩
theorem cw_RL_22 : CV RL 22 yX9_wipe cX9_wipe 2 (some .int) 0 9 := ⟨ml_RL_22, im_yX9_wipe, se_yX9_wipe, ini_RX9, cd_yX9_wipe, by decide +kernel, by decide, _, _, rfl⟩
theorem cw_RL_26 : CV RL 26 yX9_fault cX9_fault 1 (some .int) 0 9 := ⟨ml_RL_26, im_yX9_fault, se_yX9_fault, ini_RX9, cd_yX9_fault, by decide +kernel, by decide, _, _, rfl⟩
theorem cw_RX9_99 : CV RX9 99 yX9_readTalk cX9_readTalk 1 (some .int) 0 9 := ⟨ml_RX9_99, im_yX9_readTalk, se_yX9_readTalk, ini_RX9, cd_yX9_readTalk, by decide +kernel, by decide, _, _, rfl⟩
theorem cw_RX9_75 : CV RX9 75 yX9_figure cX9_figure 3 (some .int) 2 9 := ⟨ml_RX9_75, im_yX9_figure, se_yX9_figure, ini_RX9, cd_yX9_figure, by decide +kernel, by decide, _, _, rfl⟩
theorem cw_RX9_96 : CV RX9 96 yX9_readPart cX9_readPart 2 (some .boolean) 0 9 := ⟨ml_RX9_96, im_yX9_readPart, se_yX9_readPart, ini_RX9, cd_yX9_readPart, by decide +kernel, by decide, _, _, rfl⟩
theorem cw_RX9_85 : CV RX9 85 yX9_readEnvoy cX9_readEnvoy 4 (some .boolean) 0 9 := ⟨ml_RX9_85, im_yX9_readEnvoy, se_yX9_readEnvoy, ini_RX9, cd_yX9_readEnvoy, by decide +kernel, by decide, _, _, rfl⟩
theorem cw_RX9_88 : CV RX9 88 yX9_readClause cX9_readClause 4 (some .boolean) 0 9 := ⟨ml_RX9_88, im_yX9_readClause, se_yX9_readClause, ini_RX9, cd_yX9_readClause, by decide +kernel, by decide, _, _, rfl⟩
theorem cw_RL_30 : CV RL 30 yX9_talk cX9_talk 2 (some .int) 0 9 := ⟨ml_RL_30, im_yX9_talk, se_yX9_talk, ini_RX9, cd_yX9_talk, by decide +kernel, by decide, _, _, rfl⟩
theorem cw_RL_34 : CV RL 34 yX9_about cX9_about 2 (some .int) 1 9 := ⟨ml_RL_34, im_yX9_about, se_yX9_about, ini_RX9, cd_yX9_about, by decide +kernel, by decide, _, _, rfl⟩
theorem cw_RX9_121 : CV RX9 121 yX9_sayable cX9_sayable 4 (some .int) 1 9 := ⟨ml_RX9_121, im_yX9_sayable, se_yX9_sayable, ini_RX9, cd_yX9_sayable, by decide +kernel, by decide, _, _, rfl⟩
theorem cw_RX9_114 : CV RX9 114 yX9_canSay cX9_canSay 4 (some .boolean) 2 9 := ⟨ml_RX9_114, im_yX9_canSay, se_yX9_canSay, ini_RX9, cd_yX9_canSay, by decide +kernel, by decide, _, _, rfl⟩
theorem cw_RX9_110 : CS RX9 110 yX9_has cX9_has 2 (some .boolean) 2 := ⟨ml_RX9_110, st_yX9_has, ini_RX9, cd_yX9_has, by decide +kernel, by decide⟩
theorem cw_RL_39 : CV RL 39 yX9_envoy cX9_envoy 3 (some .int) 2 9 := ⟨ml_RL_39, im_yX9_envoy, se_yX9_envoy, ini_RX9, cd_yX9_envoy, by decide +kernel, by decide, _, _, rfl⟩
theorem cw_RX9_128 : CV RX9 128 yX9_noEnvoy cX9_noEnvoy 2 (some .boolean) 1 9 := ⟨ml_RX9_128, im_yX9_noEnvoy, se_yX9_noEnvoy, ini_RX9, cd_yX9_noEnvoy, by decide +kernel, by decide, _, _, rfl⟩
theorem cw_RX9_118 : CV RX9 118 yX9_painOf cX9_painOf 3 (some .int) 2 9 := ⟨ml_RX9_118, im_yX9_painOf, se_yX9_painOf, ini_RX9, cd_yX9_painOf, by decide +kernel, by decide, _, _, rfl⟩
theorem cw_RX9_106 : CS RX9 106 yX9_painBy cX9_painBy 4 (some .int) 3 := ⟨ml_RX9_106, st_yX9_painBy, ini_RX9, cd_yX9_painBy, by decide +kernel, by decide⟩
theorem cw_RL_43 : CV RL 43 yX9_clause cX9_clause 3 (some .int) 2 9 := ⟨ml_RL_43, im_yX9_clause, se_yX9_clause, ini_RX9, cd_yX9_clause, by decide +kernel, by decide, _, _, rfl⟩
theorem cw_RX9_132 : CV RX9 132 yX9_noClause cX9_noClause 2 (some .boolean) 1 9 := ⟨ml_RX9_132, im_yX9_noClause, se_yX9_noClause, ini_RX9, cd_yX9_noClause, by decide +kernel, by decide, _, _, rfl⟩
theorem cw_RX9_137 : CV RX9 137 yX9_worthOf cX9_worthOf 2 (some .int) 1 9 := ⟨ml_RX9_137, im_yX9_worthOf, se_yX9_worthOf, ini_RX9, cd_yX9_worthOf, by decide +kernel, by decide, _, _, rfl⟩
theorem cw_RL_47 : CV RL 47 yX9_bite cX9_bite 1 (some .int) 0 9 := ⟨ml_RL_47, im_yX9_bite, se_yX9_bite, ini_RX9, cd_yX9_bite, by decide +kernel, by decide, _, _, rfl⟩
theorem cw_RX9_141 : CV RX9 141 yX9_note cX9_note 2 none 0 9 := ⟨ml_RX9_141, im_yX9_note, se_yX9_note, ini_RX9, cd_yX9_note, by decide +kernel, by decide, _, _, rfl⟩
theorem cw_RX9_144 : CV RX9 144 yX9_goBite cX9_goBite 3 none 1 9 := ⟨ml_RX9_144, im_yX9_goBite, se_yX9_goBite, ini_RX9, cd_yX9_goBite, by decide +kernel, by decide, _, _, rfl⟩
theorem cw_RL_51 : CV RL 51 yX9_say cX9_say 2 (some .int) 1 9 := ⟨ml_RL_51, im_yX9_say, se_yX9_say, ini_RX9, cd_yX9_say, by decide +kernel, by decide, _, _, rfl⟩
theorem cw_RL_55 : CV RL 55 yX9_spice cX9_spice 1 (some .int) 0 9 := ⟨ml_RL_55, im_yX9_spice, se_yX9_spice, ini_RX9, cd_yX9_spice, by decide +kernel, by decide, _, _, rfl⟩
theorem cw_RX9_148 : CS RX9 148 yX9_goSpice cX9_goSpice 1 none 1 := ⟨ml_RX9_148, st_yX9_goSpice, ini_RX9, cd_yX9_goSpice, by decide +kernel, by decide⟩
theorem cw_RL_59 : CV RL 59 yX9_bread cX9_bread 2 (some .int) 1 9 := ⟨ml_RL_59, im_yX9_bread, se_yX9_bread, ini_RX9, cd_yX9_bread, by decide +kernel, by decide, _, _, rfl⟩
theorem cw_RL_63 : CV RL 63 yX9_undo cX9_undo 2 (some .int) 0 9 := ⟨ml_RL_63, im_yX9_undo, se_yX9_undo, ini_RX9, cd_yX9_undo, by decide +kernel, by decide, _, _, rfl⟩
theorem cw_RL_67 : CV RL 67 yX9_lasts cX9_lasts 1 (some .int) 0 9 := ⟨ml_RL_67, im_yX9_lasts, se_yX9_lasts, ini_RX9, cd_yX9_lasts, by decide +kernel, by decide, _, _, rfl⟩
theorem cw_RX9_154 : CV RX9 154 yX9_till cX9_till 3 (some .int) 1 9 := ⟨ml_RX9_154, im_yX9_till, se_yX9_till, ini_RX9, cd_yX9_till, by decide +kernel, by decide, _, _, rfl⟩
theorem cw_RX9_151 : CV RX9 151 yX9_begin cX9_begin 2 none 0 9 := ⟨ml_RX9_151, im_yX9_begin, se_yX9_begin, ini_RX9, cd_yX9_begin, by decide +kernel, by decide, _, _, rfl⟩
theorem cw_RL_71 : CV RL 71 yX9_bears cX9_bears 2 (some .int) 1 9 := ⟨ml_RL_71, im_yX9_bears, se_yX9_bears, ini_RX9, cd_yX9_bears, by decide +kernel, by decide, _, _, rfl⟩
theorem cw_RL_76 : CV RL 76 yX9_best cX9_best 3 (some .int) 2 9 := ⟨ml_RL_76, im_yX9_best, se_yX9_best, ini_RX9, cd_yX9_best, by decide +kernel, by decide, _, _, rfl⟩
theorem cw_RX9_168 : CV RX9 168 yX9_findBest cX9_findBest 9 none 2 9 := ⟨ml_RX9_168, im_yX9_findBest, se_yX9_findBest, ini_RX9, cd_yX9_findBest, by decide +kernel, by decide, _, _, rfl⟩
theorem cw_RX9_163 : CS RX9 163 yX9_power cX9_power 4 (some .int) 2 := ⟨ml_RX9_163, st_yX9_power, ini_RX9, cd_yX9_power, by decide +kernel, by decide⟩
theorem cw_RL_80 : CV RL 80 yX9_hot cX9_hot 6 (some .int) 2 9 := ⟨ml_RL_80, im_yX9_hot, se_yX9_hot, ini_RX9, cd_yX9_hot, by decide +kernel, by decide, _, _, rfl⟩
theorem cw_RL_84 : CV RL 84 yX9_spiceFor cX9_spiceFor 4 (some .int) 1 9 := ⟨ml_RL_84, im_yX9_spiceFor, se_yX9_spiceFor, ini_RX9, cd_yX9_spiceFor, by decide +kernel, by decide, _, _, rfl⟩
theorem cw_RL_88 : CV RL 88 yX9_judge cX9_judge 4 (some .int) 2 9 := ⟨ml_RL_88, im_yX9_judge, se_yX9_judge, ini_RX9, cd_yX9_judge, by decide +kernel, by decide, _, _, rfl⟩
theorem cw_RX9_176 : CS RX9 176 yX9_noRow cX9_noRow 4 (some .boolean) 2 := ⟨ml_RX9_176, st_yX9_noRow, ini_RX9, cd_yX9_noRow, by decide +kernel, by decide⟩
theorem cw_RX9_179 : CV RX9 179 yX9_does cX9_does 3 (some .boolean) 1 9 := ⟨ml_RX9_179, im_yX9_does, se_yX9_does, ini_RX9, cd_yX9_does, by decide +kernel, by decide, _, _, rfl⟩
theorem cw_RL_92 : CV RL 92 yX9_share cX9_share 6 (some .int) 2 9 := ⟨ml_RL_92, im_yX9_share, se_yX9_share, ini_RX9, cd_yX9_share, by decide +kernel, by decide, _, _, rfl⟩
theorem cw_RX9_185 : CS RX9 185 yX9_many cX9_many 3 (some .int) 1 := ⟨ml_RX9_185, st_yX9_many, ini_RX9, cd_yX9_many, by decide +kernel, by decide⟩
theorem cw_RX9_188 : CS RX9 188 yX9_ways cX9_ways 3 (some .int) 1 := ⟨ml_RX9_188, st_yX9_ways, ini_RX9, cd_yX9_ways, by decide +kernel, by decide⟩
theorem cw_RX9_191 : CS RX9 191 yX9_fraction cX9_fraction 4 (some .int) 3 := ⟨ml_RX9_191, st_yX9_fraction, ini_RX9, cd_yX9_fraction, by decide +kernel, by decide⟩
theorem cw_RX9_182 : CS RX9 182 yX9_divisor cX9_divisor 5 (some .int) 2 := ⟨ml_RX9_182, st_yX9_divisor, ini_RX9, cd_yX9_divisor, by decide +kernel, by decide⟩
theorem cw_RL_97 : CV RL 97 yX9_see cX9_see 4 (some .int) 3 9 := ⟨ml_RL_97, im_yX9_see, se_yX9_see, ini_RX9, cd_yX9_see, by decide +kernel, by decide, _, _, rfl⟩
theorem cw_RL_101 : CV RL 101 yX9_unsee cX9_unsee 2 (some .int) 0 9 := ⟨ml_RL_101, im_yX9_unsee, se_yX9_unsee, ini_RX9, cd_yX9_unsee, by decide +kernel, by decide, _, _, rfl⟩
theorem cw_RL_105 : CV RL 105 yX9_palates cX9_palates 6 (some .int) 1 9 := ⟨ml_RL_105, im_yX9_palates, se_yX9_palates, ini_RX9, cd_yX9_palates, by decide +kernel, by decide, _, _, rfl⟩
theorem cw_RL_109 : CV RL 109 yX9_rests cX9_rests 4 (some .int) 3 9 := ⟨ml_RL_109, im_yX9_rests, se_yX9_rests, ini_RX9, cd_yX9_rests, by decide +kernel, by decide, _, _, rfl⟩
theorem cw_RX9_208 : CV RX9 208 yX9_findRests cX9_findRests 7 none 2 9 := ⟨ml_RX9_208, im_yX9_findRests, se_yX9_findRests, ini_RX9, cd_yX9_findRests, by decide +kernel, by decide, _, _, rfl⟩
theorem cw_RX9_205 : CV RX9 205 yX9_lossOf cX9_lossOf 7 (some .int) 3 9 := ⟨ml_RX9_205, im_yX9_lossOf, se_yX9_lossOf, ini_RX9, cd_yX9_lossOf, by decide +kernel, by decide, _, _, rfl⟩
theorem cw_RL_114 : CV RL 114 yX9_chance cX9_chance 10 (some .int) 4 9 := ⟨ml_RL_114, im_yX9_chance, se_yX9_chance, ini_RX9, cd_yX9_chance, by decide +kernel, by decide, _, _, rfl⟩
theorem cw_RL_121 : CV RL 121 yX9_seed cX9_seed 5 (some .long) 1 9 := ⟨ml_RL_121, im_yX9_seed, se_yX9_seed, ini_RX9, cd_yX9_seed, by decide +kernel, by decide, _, _, rfl⟩
theorem cw_RL_125 : CV RL 125 yX9_talks cX9_talks 5 (some .int) 1 9 := ⟨ml_RL_125, im_yX9_talks, se_yX9_talks, ini_RX9, cd_yX9_talks, by decide +kernel, by decide, _, _, rfl⟩
theorem cw_RL_129 : CV RL 129 yX9_keep cX9_keep 3 (some .int) 1 9 := ⟨ml_RL_129, im_yX9_keep, se_yX9_keep, ini_RX9, cd_yX9_keep, by decide +kernel, by decide, _, _, rfl⟩
theorem cw_RL_133 : CV RL 133 yX9_again cX9_again 3 (some .int) 1 9 := ⟨ml_RL_133, im_yX9_again, se_yX9_again, ini_RX9, cd_yX9_again, by decide +kernel, by decide, _, _, rfl⟩
end
section
/-! what all modules use -/
theorem Mt_in {V : Vt} {d : Nat} {y : MethodName} {cc : ByteArray} {nL : Nat} {rt : Option FieldType} {av : List Value} {h : Hp} {post : Option Value → Hp → Prop} (lv : List (Option Value)) {own : String} (ho : y.cls = own) (hy : plainName y.cls = true) (hlen : (lg_sl av).length ≤ nL) (hlv : ∀ q ∈ asl 0 lv, q ∈ lv_args 0 av)
    (k : G V T0 d own cc nL rt 0 lv [] h post) : Mt V d y cc nL rt av h post := by
  subst ho
  exact Mt_of lv hy hlen hlv k
theorem loop_up {P : Nat → Prop} {n : Nat} (hx : P n) (hs : ∀ i, i < n → P (i + 1) → P i) : ∀ i, i ≤ n → P i := by
  have key : ∀ k i, i + k = n → P i := by
    intro k
    induction k with
    | zero => intro i hi; rw [show i = n by omega]; exact hx
    | succ k ih => intro i hi; exact hs i (by omega) (ih (i + 1) (by omega))
  exact fun i hi => key (n - i) i (by omega)
theorem sR_s (h : Hp) (r : Nat) (f : Nat → Nat) : (sR h r f).1 r = f := if_pos rfl
theorem sR_n {h : Hp} {r q : Nat} {f : Nat → Nat} (hq : q ≠ r) : (sR h r f).1 q = h.1 q := if_neg hq
theorem sR_2 (h : Hp) (r : Nat) (f : Nat → Nat) : (sR h r f).2 = h.2 := rfl
theorem sR_sR (h : Hp) (r : Nat) (f g : Nat → Nat) : sR (sR h r f) r g = sR h r g := by
  refine Prod.ext (funext fun q => ?_) rfl
  show (if q = r then g else if q = r then f else h.1 q) = if q = r then g else h.1 q
  split <;> rfl
theorem sR_same (h : Hp) (r : Nat) : sR h r (h.1 r) = h := by
  refine Prod.ext (funext fun q => ?_) rfl
  show (if q = r then h.1 r else h.1 q) = h.1 q
  split
  · rename_i e; rw [e]
  · rfl
theorem sR_c (h : Hp) {r q : Nat} (hq : r ≠ q) (f g : Nat → Nat) : sR (sR h r f) q g = sR (sR h q g) r f := by
  refine Prod.ext (funext fun a => ?_) rfl
  show (if a = q then g else if a = r then f else h.1 a) = if a = r then f else if a = q then g else h.1 a
  by_cases h1 : a = q
  · rw [if_pos h1, if_neg (by omega), if_pos h1]
  · rw [if_neg h1]
    split <;> rfl
theorem up_up (f : Nat → Nat) (o a b : Nat) : up (up f o a) o b = up f o b := by
  funext j
  show (if j = o then b else if j = o then a else f j) = if j = o then b else f j
  split <;> rfl
theorem up_c (f : Nat → Nat) {o q : Nat} (h : o ≠ q) (a b : Nat) : up (up f o a) q b = up (up f q b) o a := by
  funext j
  show (if j = q then b else if j = o then a else f j) = if j = o then a else if j = q then b else f j
  by_cases h1 : j = q
  · rw [if_pos h1, if_neg (by omega), if_pos h1]
  · rw [if_neg h1]
    split <;> rfl
theorem up_same (f : Nat → Nat) (o : Nat) : up f o (f o) = f := by
  funext j
  show (if j = o then f o else f j) = f j
  split
  · rename_i e; rw [e]
  · rfl
theorem tr_ne {i j : Nat} (h : i ≠ j) : tr i ≠ tr j := by unfold tr; omega
theorem tr_hi {i k : Nat} (h : k < 100) : k ≠ tr i := by unfold tr; omega
/-- an int that is below 0, as a natural -/
theorem nI_ng {a : Nat} (h : 2 ^ 31 ≤ a) (h2 : a < 2 ^ 32) : nI a < 0 := by
  rw [Int32.lt_iff_toInt_lt, Int32.toInt_zero]
  show (Int32.ofNat a).toInt < 0
  rw [Int32.toInt_ofNat']
  rw [Int.bmod_def, show Int32.size = 4294967296 from rfl]
  split <;> omega
theorem nI_all (x : Int32) : ∃ a, a < 2 ^ 32 ∧ x = nI a := ⟨x.toBitVec.toNat, x.toBitVec.isLt, by
  apply Int32.toBitVec_inj.mp
  show x.toBitVec = BitVec.ofNat 32 x.toBitVec.toNat
  rw [BitVec.ofNat_toNat, BitVec.setWidth_eq]⟩
theorem fx_sub0 {t p : Nat} (ht : t < 2 ^ 31) (hp : p < 2 ^ 31) : (if nI 0 < nI t - nI p then nI t - nI p else nI 0) = nI (t - p) := by
  by_cases q : p ≤ t
  · rw [pk_sub q]
    have h1 := fx_max (x := 0) (y := t - p) (by omega) (by omega)
    rw [h1, Nat.max_eq_right (by omega)]
  · have e : (nI t - nI p) = -(nI (p - t)) := by
      rw [← pk_sub (show t ≤ p by omega), Int32.neg_sub]
    have h0 : ¬ nI 0 < nI t - nI p := by
      rw [e, nI_0, Int32.lt_iff_toInt_lt, Int32.toInt_zero, sb_negT (by omega)]
      omega
    rw [if_neg h0, show t - p = 0 by omega]
def bt (s k : Nat) : Nat := s / 2 ^ k &&& 1
theorem bt_01 (s k : Nat) : bt s k = 0 ∨ bt s k = 1 := by
  unfold bt
  rw [Nat.and_one_is_mod]
  omega
theorem bt_lt (s k : Nat) : bt s k < 2 := by rcases bt_01 s k with h | h <;> omega
section Rows2
variable {V : Vt} {E : State → Prop} {d : Nat} {own : String} {cc : ByteArray} {nL : Nat} {rt : Option FieldType} {pc : Nat} {lv : List (Option Value)} {st : List Value} {h : Hp} {post : Option Value → Hp → Prop}
theorem ga_pt {k j : Nat} (pc' : Nat) (hp : pc + 1 = pc') (hk : k = 28 ∨ k = 29) (hj : j < 10) (hd : decode cc pc = .ok (.iaload, 1)) (kk : G V E d own cc nL rt pc' lv (.int (nI (h.1 k j)) :: st) h post) : G V E d own cc nL rt pc lv (.int (nI j) :: rf V k :: st) h post := by
  rcases hk with rfl | rfl
  · exact ga_28 pc' hp hj hd kk
  · exact ga_29 pc' hp hj hd kk
theorem gs_pt {k j v : Nat} (pc' : Nat) (hp : pc + 1 = pc') (hk : k = 28 ∨ k = 29) (hj : j < 10) (hd : decode cc pc = .ok (.iastore, 1)) (kk : G V E d own cc nL rt pc' lv st (sR h k (up (h.1 k) j v)) post) : G V E d own cc nL rt pc lv (.int (nI v) :: .int (nI j) :: rf V k :: st) h post := by
  rcases hk with rfl | rfl
  · exact gs_28 pc' hp hj hd kk
  · exact gs_29 pc' hp hj hd kk
end Rows2
end
section
/-! MustardTreaty$Rules -/
def pain (k p t : Nat) : Nat := if k = 1 then 0 else if k = 2 then (if t - p = 0 then 0 else t - p + 1) else if k = 3 then t - p - 1 else t - p
def wrth (C : Nat → Nat) (c : Nat) : Nat := C (3 * c) + C (3 * c + 1)
def wrths (C : Nat → Nat) (b : Nat) : Nat → Nat
  | 0 => 0
  | c + 1 => if bt b c = 0 then wrths C b c else wrths C b c + wrth C c
def clsOf (C : Nat → Nat) (b : Nat) : Nat → Nat
  | 0 => 0
  | c + 1 => if bt b (C (3 * c + 2)) = 0 then clsOf C b c else clsOf C b c ||| 1 * 2 ^ c
section X1
variable {V : Vt} {h : Hp}
theorem c_X1_worth {c : Nat} (hc : c < 5) : Rti V 1 yX1_worth cX1_worth 2 (some .int) [rf V 3, .int (nI c)] h (nI (wrth (h.1 7) c)) h := by
  refine Mt_in [some (rf V 3), some (.int (nI c))] (own := RX1) rfl (by decide) (Nat.le_of_ble_eq_true rfl) (fun q hq => hq) ?_
  refine g_aload_n0 1 rfl dX1_worth_0 ?_
  refine gf_Rules_words 4 rfl fl_RX1_21 dX1_worth_1 ?_
  refine g_iload_n1 5 rfl dX1_worth_4 ?_
  refine ga_7 6 rfl (by omega) dX1_worth_5 ?_
  refine g_aload_n0 7 rfl dX1_worth_6 ?_
  refine gf_Rules_heatNeeded 10 rfl fl_RX1_24 dX1_worth_7 ?_
  refine g_iload_n1 11 rfl dX1_worth_10 ?_
  refine ga_8 12 rfl (by omega) dX1_worth_11 ?_
  refine gn_iadd 13 rfl dX1_worth_12 ?_
  refine g_iret .int dX1_worth_13 rfl (rfl) ?_
  exact ⟨rfl, rfl⟩
theorem c_X1_tearsToStop {c : Nat} (hc : c < 4) : Rti V 1 yX1_tearsToStop cX1_tearsToStop 2 (some .int) [rf V 3, .int (nI c)] h (nI (2 * h.1 4 (3 * c + 1))) h := by
  refine Mt_in [some (rf V 3), some (.int (nI c))] (own := RX1) rfl (by decide) (Nat.le_of_ble_eq_true rfl) (fun q hq => hq) ?_
  refine g_iconst (v := 2) 1 rfl dX1_tearsToStop_0 (by decide) ?_
  refine g_aload_n0 2 rfl dX1_tearsToStop_1 ?_
  refine gf_Rules_wits 5 rfl fl_RX1_15 dX1_tearsToStop_2 ?_
  refine g_iload_n1 6 rfl dX1_tearsToStop_5 ?_
  refine ga_5 7 rfl (by omega) dX1_tearsToStop_6 ?_
  refine gn_imul 8 rfl dX1_tearsToStop_7 ?_
  refine g_iret .int dX1_tearsToStop_8 rfl (rfl) ?_
  exact ⟨rfl, rfl⟩
theorem c_X1_hasEnvoy {a : Nat} (hb : h.1 3 2 ≤ 4) (ha : a < 2 ^ 32) : Rti V 1 yX1_hasEnvoy cX1_hasEnvoy 2 (some .boolean) [rf V 3, .int (nI a)] h (nI (if a < h.1 3 2 then 1 else 0)) h := by
  refine Mt_in [some (rf V 3), some (.int (nI a))] (own := RX1) rfl (by decide) (Nat.le_of_ble_eq_true rfl) (fun q hq => hq) ?_
  by_cases hs : a < 2 ^ 31
  · refine g_iload_n1 1 rfl dX1_hasEnvoy_0 ?_
    refine gn_if_lt 16 (by decide) 4 rfl dX1_hasEnvoy_1 (by omega) (fun c => c.elim) (fun _ => ?_)
    refine g_iload_n1 5 rfl dX1_hasEnvoy_4 ?_
    refine g_aload_n0 6 rfl dX1_hasEnvoy_5 ?_
    refine gf_Rules_envoys 9 rfl fl_RX1_37 dX1_hasEnvoy_6 ?_
    refine gn_icmp_ge 16 (by decide) 12 rfl dX1_hasEnvoy_9 (by omega) (by omega) (fun c9 => ?_) (fun c9 => ?_)
    · refine g_iconst (v := 0) 17 rfl dX1_hasEnvoy_16 (by decide) ?_
      refine g_iret .boolean dX1_hasEnvoy_17 rfl (rfl) ?_
      first | (rw [if_pos c9]; exact ⟨rfl, rfl⟩) | (rw [if_neg (by omega)]; exact ⟨rfl, rfl⟩)
    · refine g_iconst (v := 1) 13 rfl dX1_hasEnvoy_12 (by decide) ?_
      refine g_goto 17 (by decide) dX1_hasEnvoy_13 ?_
      refine g_iret .boolean dX1_hasEnvoy_17 rfl (rfl) ?_
      first | (rw [if_pos c9]; exact ⟨rfl, rfl⟩) | (rw [if_neg (by omega)]; exact ⟨rfl, rfl⟩)
  · rw [if_neg (by omega)]
    refine g_iload_n1 1 rfl dX1_hasEnvoy_0 ?_
    refine g_if_lt 16 (by decide) 4 rfl dX1_hasEnvoy_1 (fun c1 => ?_) (fun c1 => absurd (nI_ng (by omega) ha) c1)
    refine g_iconst (v := 0) 17 rfl dX1_hasEnvoy_16 (by decide) ?_
    refine g_iret .boolean dX1_hasEnvoy_17 rfl (rfl) ?_
    exact ⟨rfl, rfl⟩
theorem c_X1_hasClause {a : Nat} (hb : h.1 3 3 ≤ 5) (ha : a < 2 ^ 32) : Rti V 1 yX1_hasClause cX1_hasClause 2 (some .boolean) [rf V 3, .int (nI a)] h (nI (if a < h.1 3 3 then 1 else 0)) h := by
  refine Mt_in [some (rf V 3), some (.int (nI a))] (own := RX1) rfl (by decide) (Nat.le_of_ble_eq_true rfl) (fun q hq => hq) ?_
  by_cases hs : a < 2 ^ 31
  · refine g_iload_n1 1 rfl dX1_hasClause_0 ?_
    refine gn_if_lt 16 (by decide) 4 rfl dX1_hasClause_1 (by omega) (fun c => c.elim) (fun _ => ?_)
    refine g_iload_n1 5 rfl dX1_hasClause_4 ?_
    refine g_aload_n0 6 rfl dX1_hasClause_5 ?_
    refine gf_Rules_clauses 9 rfl fl_RX1_40 dX1_hasClause_6 ?_
    refine gn_icmp_ge 16 (by decide) 12 rfl dX1_hasClause_9 (by omega) (by omega) (fun c9 => ?_) (fun c9 => ?_)
    · refine g_iconst (v := 0) 17 rfl dX1_hasClause_16 (by decide) ?_
      refine g_iret .boolean dX1_hasClause_17 rfl (rfl) ?_
      first | (rw [if_pos c9]; exact ⟨rfl, rfl⟩) | (rw [if_neg (by omega)]; exact ⟨rfl, rfl⟩)
    · refine g_iconst (v := 1) 13 rfl dX1_hasClause_12 (by decide) ?_
      refine g_goto 17 (by decide) dX1_hasClause_13 ?_
      refine g_iret .boolean dX1_hasClause_17 rfl (rfl) ?_
      first | (rw [if_pos c9]; exact ⟨rfl, rfl⟩) | (rw [if_neg (by omega)]; exact ⟨rfl, rfl⟩)
  · rw [if_neg (by omega)]
    refine g_iload_n1 1 rfl dX1_hasClause_0 ?_
    refine g_if_lt 16 (by decide) 4 rfl dX1_hasClause_1 (fun c1 => ?_) (fun c1 => absurd (nI_ng (by omega) ha) c1)
    refine g_iconst (v := 0) 17 rfl dX1_hasClause_16 (by decide) ?_
    refine g_iret .boolean dX1_hasClause_17 rfl (rfl) ?_
    exact ⟨rfl, rfl⟩
theorem c_X1_wordsAt {t : Nat} (ht : t ≤ 9) : Rti V 1 yX1_wordsAt cX1_wordsAt 1 (some .int) [.int (nI t)] h (nI (4 - t / 3)) h := by
  refine Mt_in [some (.int (nI t))] (own := RX1) rfl (by decide) (Nat.le_of_ble_eq_true rfl) (fun q hq => hq) ?_
  refine g_iconst (v := 4) 1 rfl dX1_wordsAt_0 (by decide) ?_
  refine g_iload_n0 2 rfl dX1_wordsAt_1 ?_
  refine g_iconst (v := 3) 3 rfl dX1_wordsAt_2 (by decide) ?_
  refine gn_idiv 4 rfl dX1_wordsAt_3 (by omega) (by omega) (by omega) ?_
  refine gn_isub 5 rfl dX1_wordsAt_4 (by omega) ?_
  refine g_iret .int dX1_wordsAt_5 rfl (rfl) ?_
  exact ⟨rfl, rfl⟩
theorem c_X1_painFor {k p t : Nat} (hk : k ≤ 3) (hp : p ≤ 9) (ht : t ≤ 9) : Rti V 1 yX1_painFor cX1_painFor 4 (some .int) [.int (nI k), .int (nI p), .int (nI t)] h (nI (pain k p t)) h := by
  refine Mt_in [some (.int (nI k)), some (.int (nI p)), some (.int (nI t)), none] (own := RX1) rfl (by decide) (Nat.le_of_ble_eq_true rfl) (fun q hq => hq) ?_
  rcases (show k = 0 ∨ k = 1 ∨ k = 2 ∨ k = 3 by omega) with rfl | rfl | rfl | rfl
  · refine g_iconst (v := 0) 1 rfl dX1_painFor_0 (by decide) ?_
    refine g_iload_n2 2 rfl dX1_painFor_1 ?_
    refine g_iload_n1 3 rfl dX1_painFor_2 ?_
    refine g_isub 4 rfl dX1_painFor_3  ?_
    refine g_max 7 rfl ml_RX1_51 dX1_painFor_4 (by decide) (Nat.le_of_ble_eq_true rfl) ?_
    rw [fx_sub0 (by omega) (by omega)]
    refine g_istore_n3 8 rfl dX1_painFor_7 (by decide) rfl ?_
    refine g_iload_n0 9 rfl dX1_painFor_8 ?_
    refine g_tsw (off := 49) 58 dX1_painFor_9 (by decide +kernel) (by decide) ?_
    refine g_iload_n3 59 rfl dX1_painFor_58 ?_
    refine g_iret .int dX1_painFor_59 rfl (rfl) ?_
    exact ⟨rfl, rfl⟩
  · refine g_iconst (v := 0) 1 rfl dX1_painFor_0 (by decide) ?_
    refine g_iload_n2 2 rfl dX1_painFor_1 ?_
    refine g_iload_n1 3 rfl dX1_painFor_2 ?_
    refine g_isub 4 rfl dX1_painFor_3  ?_
    refine g_max 7 rfl ml_RX1_51 dX1_painFor_4 (by decide) (Nat.le_of_ble_eq_true rfl) ?_
    rw [fx_sub0 (by omega) (by omega)]
    refine g_istore_n3 8 rfl dX1_painFor_7 (by decide) rfl ?_
    refine g_iload_n0 9 rfl dX1_painFor_8 ?_
    refine g_tsw (off := 27) 36 dX1_painFor_9 (by decide +kernel) (by decide) ?_
    refine g_iconst (v := 0) 37 rfl dX1_painFor_36 (by decide) ?_
    refine g_iret .int dX1_painFor_37 rfl (rfl) ?_
    exact ⟨rfl, rfl⟩
  · refine g_iconst (v := 0) 1 rfl dX1_painFor_0 (by decide) ?_
    refine g_iload_n2 2 rfl dX1_painFor_1 ?_
    refine g_iload_n1 3 rfl dX1_painFor_2 ?_
    refine g_isub 4 rfl dX1_painFor_3  ?_
    refine g_max 7 rfl ml_RX1_51 dX1_painFor_4 (by decide) (Nat.le_of_ble_eq_true rfl) ?_
    rw [fx_sub0 (by omega) (by omega)]
    refine g_istore_n3 8 rfl dX1_painFor_7 (by decide) rfl ?_
    refine g_iload_n0 9 rfl dX1_painFor_8 ?_
    refine g_tsw (off := 29) 38 dX1_painFor_9 (by decide +kernel) (by decide) ?_
    refine g_iload_n3 39 rfl dX1_painFor_38 ?_
    refine gn_if_le 48 (by decide) 42 rfl dX1_painFor_39 (by omega) (fun c39 => ?_) (fun c39 => ?_)
    · refine g_iconst (v := 0) 49 rfl dX1_painFor_48 (by decide) ?_
      refine g_iret .int dX1_painFor_49 rfl (rfl) ?_
      refine ⟨congrArg (fun q => some (Value.int (nI q))) ?_, rfl⟩
      first | exact (if_pos c39).symm | exact (if_neg (show ¬ t - p = 0 by omega)).symm
    · refine g_iload_n3 43 rfl dX1_painFor_42 ?_
      refine g_iconst (v := 1) 44 rfl dX1_painFor_43 (by decide) ?_
      refine gn_iadd 45 rfl dX1_painFor_44 ?_
      refine g_goto 49 (by decide) dX1_painFor_45 ?_
      refine g_iret .int dX1_painFor_49 rfl (rfl) ?_
      refine ⟨congrArg (fun q => some (Value.int (nI q))) ?_, rfl⟩
      first | exact (if_pos c39).symm | exact (if_neg (show ¬ t - p = 0 by omega)).symm
  · refine g_iconst (v := 0) 1 rfl dX1_painFor_0 (by decide) ?_
    refine g_iload_n2 2 rfl dX1_painFor_1 ?_
    refine g_iload_n1 3 rfl dX1_painFor_2 ?_
    refine g_isub 4 rfl dX1_painFor_3  ?_
    refine g_max 7 rfl ml_RX1_51 dX1_painFor_4 (by decide) (Nat.le_of_ble_eq_true rfl) ?_
    rw [fx_sub0 (by omega) (by omega)]
    refine g_istore_n3 8 rfl dX1_painFor_7 (by decide) rfl ?_
    refine g_iload_n0 9 rfl dX1_painFor_8 ?_
    refine g_tsw (off := 41) 50 dX1_painFor_9 (by decide +kernel) (by decide) ?_
    refine g_iconst (v := 0) 51 rfl dX1_painFor_50 (by decide) ?_
    refine g_iload_n3 52 rfl dX1_painFor_51 ?_
    refine g_iconst (v := 1) 53 rfl dX1_painFor_52 (by decide) ?_
    refine g_isub 54 rfl dX1_painFor_53  ?_
    refine g_max 57 rfl ml_RX1_51 dX1_painFor_54 (by decide) (Nat.le_of_ble_eq_true rfl) ?_
    rw [fx_sub0 (by omega) (by omega)]
    refine g_iret .int dX1_painFor_57 rfl (rfl) ?_
    exact ⟨rfl, rfl⟩
theorem c_X1_pain {e t : Nat} (he : e < 4) (hk : h.1 4 (3 * e + 2) ≤ 3) (hp : h.1 4 (3 * e) ≤ 9) (ht : t ≤ 9) : Rti V 2 yX1_pain cX1_pain 3 (some .int) [rf V 3, .int (nI e), .int (nI t)] h (nI (pain (h.1 4 (3 * e + 2)) (h.1 4 (3 * e)) t)) h := by
  refine Mt_in [some (rf V 3), some (.int (nI e)), some (.int (nI t))] (own := RX1) rfl (by decide) (Nat.le_of_ble_eq_true rfl) (fun q hq => hq) ?_
  refine g_aload_n0 1 rfl dX1_pain_0 ?_
  refine gf_Rules_kind 4 rfl fl_RX1_18 dX1_pain_1 ?_
  refine g_iload_n1 5 rfl dX1_pain_4 ?_
  refine ga_6 6 rfl (by omega) dX1_pain_5 ?_
  refine g_aload_n0 7 rfl dX1_pain_6 ?_
  refine gf_Rules_palate 10 rfl fl_RX1_9 dX1_pain_7 ?_
  refine g_iload_n1 11 rfl dX1_pain_10 ?_
  refine ga_4 12 rfl (by omega) dX1_pain_11 ?_
  refine g_iload_n2 13 rfl dX1_pain_12 ?_
  refine g_cs3i 16 rfl cw_RX1_47 dX1_pain_13 (c_X1_painFor hk hp ht) (by decide) (Nat.le_of_ble_eq_true rfl) ?_
  refine g_iret .int dX1_pain_16 rfl (rfl) ?_
  exact ⟨rfl, rfl⟩
theorem c_X1_worthOf {b : Nat} (hC : h.1 3 3 ≤ 5) (hb : b < 2 ^ 31) : Rti V 2 yX1_worthOf cX1_worthOf 4 (some .int) [rf V 3, .int (nI b)] h (nI (wrths (h.1 7) b (h.1 3 3))) h := by
  refine Mt_in [some (rf V 3), some (.int (nI b)), none, none] (own := RX1) rfl (by decide) (Nat.le_of_ble_eq_true rfl) (fun q hq => hq) ?_
  refine g_iconst (v := 0) 1 rfl dX1_worthOf_0 (by decide) ?_
  refine g_istore_n2 2 rfl dX1_worthOf_1 (by decide) rfl ?_
  refine g_iconst (v := 0) 3 rfl dX1_worthOf_2 (by decide) ?_
  refine g_istore_n3 4 rfl dX1_worthOf_3 (by decide) rfl ?_
  skip
  refine loop_up (P := fun i => G V T0 2 RX1 cX1_worthOf 4 (some .int) 4 [some (rf V 3), some (.int (nI b)), some (.int (nI (wrths (h.1 7) b i))), some (.int (nI i))] [] h _) (n := h.1 3 3) ?_ (fun i hi ih => ?_) 0 (Nat.zero_le _)
  · refine g_iload_n3 5 rfl dX1_worthOf_4 ?_
    refine g_aload_n0 6 rfl dX1_worthOf_5 ?_
    refine gf_Rules_clauses 9 rfl fl_RX1_40 dX1_worthOf_6 ?_
    refine gn_icmp_ge 34 (by decide) 12 rfl dX1_worthOf_9 (by omega) (by omega) (fun c9 => ?_) (fun c9 => absurd c9 (Nat.lt_irrefl _))
    refine g_iload_n2 35 rfl dX1_worthOf_34 ?_
    refine g_iret .int dX1_worthOf_35 rfl (rfl) ?_
    exact ⟨rfl, rfl⟩
  · refine g_iload_n3 5 rfl dX1_worthOf_4 ?_
    refine g_aload_n0 6 rfl dX1_worthOf_5 ?_
    refine gf_Rules_clauses 9 rfl fl_RX1_40 dX1_worthOf_6 ?_
    refine gn_icmp_ge 34 (by decide) 12 rfl dX1_worthOf_9 (by omega) (by omega) (fun c9 => absurd c9 (Nat.not_le_of_lt hi)) (fun c9 => ?_)
    refine g_iload_n1 13 rfl dX1_worthOf_12 ?_
    refine g_iload_n3 14 rfl dX1_worthOf_13 ?_
    refine gn_ishr 15 rfl dX1_worthOf_14 (by omega) (by omega) ?_
    refine g_iconst (v := 1) 16 rfl dX1_worthOf_15 (by decide) ?_
    refine gn_iand 17 rfl dX1_worthOf_16 ?_
    refine gn_if_eq 28 (by decide) 20 rfl dX1_worthOf_17 (Nat.lt_of_lt_of_le (bt_lt b i) (by omega)) (fun c17 => ?_) (fun c17 => ?_)
    · refine gn_iinc3 1 31 rfl dX1_worthOf_28 rfl (by decide) rfl ?_
      refine g_goto 4 (by decide) dX1_worthOf_31 ?_
      first | (rw [show wrths _ _ (i + 1) = _ from if_pos c17] at ih; exact ih) | (rw [show wrths _ _ (i + 1) = _ from if_neg c17] at ih; exact ih)
    · refine g_iload_n2 21 rfl dX1_worthOf_20 ?_
      refine g_aload_n0 22 rfl dX1_worthOf_21 ?_
      refine g_iload_n3 23 rfl dX1_worthOf_22 ?_
      refine g_cv1i 26 rfl cw_RX1_43 dX1_worthOf_23 (c_X1_worth (by omega)) (by decide) (ob_3 V) (Nat.le_of_ble_eq_true rfl) ?_
      refine gn_iadd 27 rfl dX1_worthOf_26 ?_
      refine g_istore_n2 28 rfl dX1_worthOf_27 (by decide) rfl ?_
      refine gn_iinc3 1 31 rfl dX1_worthOf_28 rfl (by decide) rfl ?_
      refine g_goto 4 (by decide) dX1_worthOf_31 ?_
      first | (rw [show wrths _ _ (i + 1) = _ from if_pos c17] at ih; exact ih) | (rw [show wrths _ _ (i + 1) = _ from if_neg c17] at ih; exact ih)
theorem c_X1_clausesOf {b : Nat} (hC : h.1 3 3 ≤ 5) (hb : b < 2 ^ 31) (ho : ∀ c, h.1 7 (3 * c + 2) < 4) : Rti V 1 yX1_clausesOf cX1_clausesOf 4 (some .int) [rf V 3, .int (nI b)] h (nI (clsOf (h.1 7) b (h.1 3 3))) h := by
  refine Mt_in [some (rf V 3), some (.int (nI b)), none, none] (own := RX1) rfl (by decide) (Nat.le_of_ble_eq_true rfl) (fun q hq => hq) ?_
  refine g_iconst (v := 0) 1 rfl dX1_clausesOf_0 (by decide) ?_
  refine g_istore_n2 2 rfl dX1_clausesOf_1 (by decide) rfl ?_
  refine g_iconst (v := 0) 3 rfl dX1_clausesOf_2 (by decide) ?_
  refine g_istore_n3 4 rfl dX1_clausesOf_3 (by decide) rfl ?_
  skip
  refine loop_up (P := fun i => G V T0 1 RX1 cX1_clausesOf 4 (some .int) 4 [some (rf V 3), some (.int (nI b)), some (.int (nI (clsOf (h.1 7) b i))), some (.int (nI i))] [] h _) (n := h.1 3 3) ?_ (fun i hi ih => ?_) 0 (Nat.zero_le _)
  · refine g_iload_n3 5 rfl dX1_clausesOf_4 ?_
    refine g_aload_n0 6 rfl dX1_clausesOf_5 ?_
    refine gf_Rules_clauses 9 rfl fl_RX1_40 dX1_clausesOf_6 ?_
    refine gn_icmp_ge 37 (by decide) 12 rfl dX1_clausesOf_9 (by omega) (by omega) (fun c9 => ?_) (fun c9 => absurd c9 (Nat.lt_irrefl _))
    refine g_iload_n2 38 rfl dX1_clausesOf_37 ?_
    refine g_iret .int dX1_clausesOf_38 rfl (rfl) ?_
    exact ⟨rfl, rfl⟩
  · have hoi := ho i
    refine g_iload_n3 5 rfl dX1_clausesOf_4 ?_
    refine g_aload_n0 6 rfl dX1_clausesOf_5 ?_
    refine gf_Rules_clauses 9 rfl fl_RX1_40 dX1_clausesOf_6 ?_
    refine gn_icmp_ge 37 (by decide) 12 rfl dX1_clausesOf_9 (by omega) (by omega) (fun c9 => absurd c9 (Nat.not_le_of_lt hi)) (fun c9 => ?_)
    refine g_iload_n1 13 rfl dX1_clausesOf_12 ?_
    refine g_aload_n0 14 rfl dX1_clausesOf_13 ?_
    refine gf_Rules_owner 17 rfl fl_RX1_27 dX1_clausesOf_14 ?_
    refine g_iload_n3 18 rfl dX1_clausesOf_17 ?_
    refine ga_9 19 rfl (by omega) dX1_clausesOf_18 ?_
    refine gn_ishr 20 rfl dX1_clausesOf_19 (by omega) (by omega) ?_
    refine g_iconst (v := 1) 21 rfl dX1_clausesOf_20 (by decide) ?_
    refine gn_iand 22 rfl dX1_clausesOf_21 ?_
    refine gn_if_eq 31 (by decide) 25 rfl dX1_clausesOf_22 (Nat.lt_of_lt_of_le (bt_lt b _) (by omega)) (fun c22 => ?_) (fun c22 => ?_)
    · refine gn_iinc3 1 34 rfl dX1_clausesOf_31 rfl (by decide) rfl ?_
      refine g_goto 4 (by decide) dX1_clausesOf_34 ?_
      first | (rw [show clsOf _ _ (i + 1) = _ from if_pos c22] at ih; exact ih) | (rw [show clsOf _ _ (i + 1) = _ from if_neg c22] at ih; exact ih)
    · refine g_iload_n2 26 rfl dX1_clausesOf_25 ?_
      refine g_iconst (v := 1) 27 rfl dX1_clausesOf_26 (by decide) ?_
      refine g_iload_n3 28 rfl dX1_clausesOf_27 ?_
      refine gn_ishl 29 rfl dX1_clausesOf_28 (by omega) ?_
      refine gn_ior 30 rfl dX1_clausesOf_29 ?_
      refine g_istore_n2 31 rfl dX1_clausesOf_30 (by decide) rfl ?_
      refine gn_iinc3 1 34 rfl dX1_clausesOf_31 rfl (by decide) rfl ?_
      refine g_goto 4 (by decide) dX1_clausesOf_34 ?_
      first | (rw [show clsOf _ _ (i + 1) = _ from if_pos c22] at ih; exact ih) | (rw [show clsOf _ _ (i + 1) = _ from if_neg c22] at ih; exact ih)
theorem c_X1_begin {t s : Nat} : Rtv V 1 yX1_begin cX1_begin 3 none [rf V 3, .int (nI t), .int (nI s)] h (sR h 3 (up (up (up (up (h.1 3) 0 t) 1 s) 2 0) 3 0)) := by
  refine Mt_in [some (rf V 3), some (.int (nI t)), some (.int (nI s))] (own := RX1) rfl (by decide) (Nat.le_of_ble_eq_true rfl) (fun q hq => hq) ?_
  refine g_aload_n0 1 rfl dX1_begin_0 ?_
  refine g_iload_n1 2 rfl dX1_begin_1 ?_
  refine gp_Rules_heatAtFirst 5 rfl fl_RX1_30 dX1_begin_2 ?_
  refine g_aload_n0 6 rfl dX1_begin_5 ?_
  refine g_iload_n2 7 rfl dX1_begin_6 ?_
  refine gp_Rules_storeAtFirst 10 rfl fl_RX1_34 dX1_begin_7 ?_
  refine g_aload_n0 11 rfl dX1_begin_10 ?_
  refine g_iconst (v := 0) 12 rfl dX1_begin_11 (by decide) ?_
  refine gp_Rules_envoys 15 rfl fl_RX1_37 dX1_begin_12 ?_
  refine g_aload_n0 16 rfl dX1_begin_15 ?_
  refine g_iconst (v := 0) 17 rfl dX1_begin_16 (by decide) ?_
  refine gp_Rules_clauses 20 rfl fl_RX1_40 dX1_begin_17 ?_
  refine g_vret dX1_begin_20 rfl ?_
  exact ⟨rfl, by rw [sR_sR, sR_sR, sR_sR]; rfl⟩
end X1
end
section
/-! MustardTreaty$Table: a table's numbers are a row: heat 0, store 1, tears 2 .. 5, eating 6, fed 7, bound 8, bites 9 -/
def TI (f : Nat → Nat) : Prop := f 0 ≤ 9 ∧ f 1 ≤ 9 ∧ f 6 < 16 ∧ f 7 < 16 ∧ f 8 < 32 ∧ (∀ e, e < 4 → f (2 + e) ≤ 27 ∧ (bt (f 6) e = 1 → f (2 + e) ≤ 17)) ∧ ∀ o, 10 ≤ o → f o = 0
def XI (h : Hp) : Prop := h.1 3 2 ≤ 4 ∧ h.1 3 3 ≤ 5 ∧ (∀ j, h.1 4 j ≤ 9) ∧ (∀ e, h.1 4 (3 * e + 2) ≤ 3) ∧ (∀ j, h.1 7 j ≤ 9) ∧ (∀ c, h.1 7 (3 * c + 2) < 4) ∧ ∀ i, TI (h.1 (tr i))
theorem XI_tr {h : Hp} (hx : XI h) {i : Nat} {f : Nat → Nat} (hf : TI f) : XI (sR h (tr i) f) := by
  obtain ⟨h1, h2, h3, h4, h5, h6, h7⟩ := hx
  have e3 : (sR h (tr i) f).1 3 = h.1 3 := sR_n (tr_hi (by omega))
  have e4 : (sR h (tr i) f).1 4 = h.1 4 := sR_n (tr_hi (by omega))
  have e7 : (sR h (tr i) f).1 7 = h.1 7 := sR_n (tr_hi (by omega))
  refine ⟨by rw [e3]; exact h1, by rw [e3]; exact h2, by rw [e4]; exact h3, by rw [e4]; exact h4, by rw [e7]; exact h5, by rw [e7]; exact h6, fun j => ?_⟩
  by_cases q : j = i
  · rw [q, sR_s]; exact hf
  · rw [sR_n (tr_ne q)]; exact h7 j
theorem sR_t3 (h : Hp) (i : Nat) (f : Nat → Nat) : (sR h (tr i) f).1 3 = h.1 3 := sR_n (tr_hi (by omega))
theorem sR_t4 (h : Hp) (i : Nat) (f : Nat → Nat) : (sR h (tr i) f).1 4 = h.1 4 := sR_n (tr_hi (by omega))
theorem sR_t7 (h : Hp) (i : Nat) (f : Nat → Nat) : (sR h (tr i) f).1 7 = h.1 7 := sR_n (tr_hi (by omega))
def bite1 (E : Nat → Nat) (e : Nat) (T : Nat → Nat) : Nat → Nat :=
  if bt (T 6) e = 0 then T else if T (2 + e) + pain (E (3 * e + 2)) (E (3 * e)) (T 0) < 2 * E (3 * e + 1) then up T (2 + e) (T (2 + e) + pain (E (3 * e + 2)) (E (3 * e)) (T 0)) else up (up T (2 + e) (T (2 + e) + pain (E (3 * e + 2)) (E (3 * e)) (T 0))) 6 (T 6 &&& (1 * 2 ^ e ^^^ 4294967295))
def biteN (E T : Nat → Nat) : Nat → Nat → Nat
  | 0 => T
  | e + 1 => bite1 E e (biteN E T e)
def bite (E : Nat → Nat) (n : Nat) (T : Nat → Nat) : Nat → Nat := up (up (biteN E T n) 0 (biteN E T n 0 - 1)) 9 (biteN E T n 9 + 1)
def canB (n : Nat) (C T : Nat → Nat) (c : Nat) : Bool := decide (c < n ∧ bt (T 8) c = 0 ∧ ¬ bt (T 6) (C (3 * c + 2)) = 0 ∧ C (3 * c + 1) ≤ T 0 ∧ C (3 * c) ≤ 4 - T 0 / 3)
def sayB (n : Nat) (C T : Nat → Nat) : Nat → Nat
  | 0 => 0
  | c + 1 => if canB n C T c then sayB n C T c ||| 1 * 2 ^ c else sayB n C T c
def bindR (T : Nat → Nat) (c : Nat) : Nat → Nat := up T 8 (T 8 ||| 1 * 2 ^ c)
def seedR (T : Nat → Nat) : Nat → Nat := up (up T 1 (T 1 - 1)) 0 (min 9 (T 0 + 2))
def breadR (T : Nat → Nat) (e : Nat) : Nat → Nat := up (up T (2 + e) (T (2 + e) - 3)) 7 (T 7 ||| 1 * 2 ^ e)
theorem pain_le {k p t : Nat} (ht : t ≤ 9) : pain k p t ≤ 10 := by
  unfold pain
  split
  · omega
  · split
    · split <;> omega
    · split <;> omega
theorem and_le16 {a b : Nat} (h : a < 16) : a &&& b < 16 := Nat.lt_of_le_of_lt Nat.and_le_left h
theorem bt_clr : ∀ a, a < 16 → ∀ e, e < 4 → bt (a &&& (1 * 2 ^ e ^^^ 4294967295)) e = 0 ∧ ∀ j, j < 4 → j ≠ e → bt (a &&& (1 * 2 ^ e ^^^ 4294967295)) j = bt a j := by decide +kernel
theorem TI_bite1 {E T : Nat → Nat} {e : Nat} (hT : TI T) (he : e < 4) (hE : ∀ j, E j ≤ 9) : TI (bite1 E e T) := by
  obtain ⟨h0, h1, h6, h7, h8, ht, hz⟩ := hT
  unfold bite1
  have hp := pain_le (k := E (3 * e + 2)) (p := E (3 * e)) h0
  have hw := hE (3 * e + 1)
  split
  · exact ⟨h0, h1, h6, h7, h8, ht, hz⟩
  · rename_i hb
    have hb1 : bt (T 6) e = 1 := by rcases bt_01 (T 6) e with q | q <;> omega
    have h17 := (ht e he).2 hb1
    have hv : T (2 + e) + pain (E (3 * e + 2)) (E (3 * e)) (T 0) ≤ 27 := by omega
    generalize T (2 + e) + pain (E (3 * e + 2)) (E (3 * e)) (T 0) = v at hv ⊢
    split
    · refine ⟨by rw [up_n (by omega)]; exact h0, by rw [up_n (by omega)]; exact h1, by rw [up_n (by omega)]; exact h6, by rw [up_n (by omega)]; exact h7, by rw [up_n (by omega)]; exact h8, fun a ha => ?_, fun o ho => by rw [up_n (by omega)]; exact hz o ho⟩
      rw [up_n (show 6 ≠ 2 + e by omega)]
      by_cases q : a = e
      · rw [q, up_s]; omega
      · rw [up_n (by omega)]; exact ht a ha
    · obtain ⟨k1, k2⟩ := bt_clr (T 6) h6 e he
      refine ⟨by rw [up_n (by omega), up_n (by omega)]; exact h0, by rw [up_n (by omega), up_n (by omega)]; exact h1, by rw [up_s]; exact and_le16 h6, by rw [up_n (by omega), up_n (by omega)]; exact h7, by rw [up_n (by omega), up_n (by omega)]; exact h8, fun a ha => ?_, fun o ho => by rw [up_n (by omega), up_n (by omega)]; exact hz o ho⟩
      rw [up_s, up_n (show 2 + a ≠ 6 by omega)]
      by_cases q : a = e
      · rw [q, up_s, k1]; omega
      · rw [up_n (by omega), k2 a ha q]; exact ht a ha
theorem TI_biteN {E T : Nat → Nat} (hT : TI T) (hE : ∀ j, E j ≤ 9) : ∀ e, e ≤ 4 → TI (biteN E T e)
  | 0, _ => hT
  | e + 1, he => TI_bite1 (TI_biteN hT hE e (by omega)) (by omega) hE
theorem TI_up0 {T : Nat → Nat} (hT : TI T) {v : Nat} (hv : v ≤ 9) : TI (up T 0 v) := by
  obtain ⟨h0, h1, h6, h7, h8, ht, hz⟩ := hT
  refine ⟨by rw [up_s]; exact hv, by rw [up_n (by omega)]; exact h1, by rw [up_n (by omega)]; exact h6, by rw [up_n (by omega)]; exact h7, by rw [up_n (by omega)]; exact h8, fun a ha => ?_, fun o ho => by rw [up_n (by omega)]; exact hz o ho⟩
  rw [up_n (by omega), up_n (by omega)]; exact ht a ha
theorem TI_up9 {T : Nat → Nat} (hT : TI T) (v : Nat) : TI (up T 9 v) := by
  obtain ⟨h0, h1, h6, h7, h8, ht, hz⟩ := hT
  refine ⟨by rw [up_n (by omega)]; exact h0, by rw [up_n (by omega)]; exact h1, by rw [up_n (by omega)]; exact h6, by rw [up_n (by omega)]; exact h7, by rw [up_n (by omega)]; exact h8, fun a ha => ?_, fun o ho => by rw [up_n (by omega)]; exact hz o ho⟩
  rw [up_n (by omega), up_n (by omega)]; exact ht a ha
theorem TI_up1 {T : Nat → Nat} (hT : TI T) {v : Nat} (hv : v ≤ 9) : TI (up T 1 v) := by
  obtain ⟨h0, h1, h6, h7, h8, ht, hz⟩ := hT
  refine ⟨by rw [up_n (by omega)]; exact h0, by rw [up_s]; exact hv, by rw [up_n (by omega)]; exact h6, by rw [up_n (by omega)]; exact h7, by rw [up_n (by omega)]; exact h8, fun a ha => ?_, fun o ho => by rw [up_n (by omega)]; exact hz o ho⟩
  rw [up_n (by omega), up_n (by omega)]; exact ht a ha
theorem TI_up8 {T : Nat → Nat} (hT : TI T) {v : Nat} (hv : v < 32) : TI (up T 8 v) := by
  obtain ⟨h0, h1, h6, h7, h8, ht, hz⟩ := hT
  refine ⟨by rw [up_n (by omega)]; exact h0, by rw [up_n (by omega)]; exact h1, by rw [up_n (by omega)]; exact h6, by rw [up_n (by omega)]; exact h7, by rw [up_s]; exact hv, fun a ha => ?_, fun o ho => by rw [up_n (by omega)]; exact hz o ho⟩
  rw [up_n (by omega), up_n (by omega)]; exact ht a ha
theorem TI_up7 {T : Nat → Nat} (hT : TI T) {v : Nat} (hv : v < 16) : TI (up T 7 v) := by
  obtain ⟨h0, h1, h6, h7, h8, ht, hz⟩ := hT
  refine ⟨by rw [up_n (by omega)]; exact h0, by rw [up_n (by omega)]; exact h1, by rw [up_n (by omega)]; exact h6, by rw [up_s]; exact hv, by rw [up_n (by omega)]; exact h8, fun a ha => ?_, fun o ho => by rw [up_n (by omega)]; exact hz o ho⟩
  rw [up_n (by omega), up_n (by omega)]; exact ht a ha
theorem TI_upt {T : Nat → Nat} (hT : TI T) {e v : Nat} (he : e < 4) (hv : v ≤ T (2 + e)) : TI (up T (2 + e) v) := by
  obtain ⟨h0, h1, h6, h7, h8, ht, hz⟩ := hT
  refine ⟨by rw [up_n (by omega)]; exact h0, by rw [up_n (by omega)]; exact h1, by rw [up_n (by omega)]; exact h6, by rw [up_n (by omega)]; exact h7, by rw [up_n (by omega)]; exact h8, fun a ha => ?_, fun o ho => by rw [up_n (by omega)]; exact hz o ho⟩
  rw [up_n (show 6 ≠ 2 + e by omega)]
  have := ht e he
  by_cases q : a = e
  · rw [q, up_s]; omega
  · rw [up_n (by omega)]; exact ht a ha
theorem TI_bite {E T : Nat → Nat} (hT : TI T) (hE : ∀ j, E j ≤ 9) {n : Nat} (hn : n ≤ 4) : TI (bite E n T) := by
  have h := TI_biteN (T := T) hT hE n hn
  exact TI_up9 (TI_up0 h (by have := h.1; omega)) _
theorem or32 : ∀ a, a < 32 → ∀ c, c < 5 → a ||| 1 * 2 ^ c < 32 := by decide +kernel
theorem or16 : ∀ a, a < 16 → ∀ c, c < 4 → a ||| 1 * 2 ^ c < 16 := by decide +kernel
theorem TI_bind {T : Nat → Nat} (hT : TI T) {c : Nat} (hc : c < 5) : TI (bindR T c) := TI_up8 hT (or32 _ hT.2.2.2.2.1 c hc)
theorem TI_seed {T : Nat → Nat} (hT : TI T) : TI (seedR T) := TI_up0 (TI_up1 hT (by have := hT.2.1; omega)) (by omega)
theorem TI_bread {T : Nat → Nat} (hT : TI T) {e : Nat} (he : e < 4) : TI (breadR T e) := TI_up7 (TI_upt hT he (by omega)) (or16 _ hT.2.2.2.1 e he)
section X7
variable {V : Vt} {h : Hp}
theorem nar2 {v : Nat} (hv : v < 2) : narrow .boolean (.int (nI v)) = .int (nI v) := by
  rcases (show v = 0 ∨ v = 1 by omega) with rfl | rfl <;> rfl
theorem c_X7_eats {i e : Nat} (hi : i < 24) (hT : TI (h.1 (tr i))) (he : e < 32) : Rti V 1 yX7_eats cX7_eats 2 (some .boolean) [rf V (tb i), .int (nI e)] h (nI (bt (h.1 (tr i) 6) e)) h := by
  have h6 := hT.2.2.1
  refine Mt_in [some (rf V (tb i)), some (.int (nI e))] (own := RX7) rfl (by decide) (Nat.le_of_ble_eq_true rfl) (fun q hq => hq) ?_
  refine g_aload_n0 1 rfl dX7_eats_0 ?_
  refine gf_Table_eating 4 rfl (by omega) fl_RX7_37 dX7_eats_1 ?_
  refine g_iload_n1 5 rfl dX7_eats_4 ?_
  refine gn_ishr 6 rfl dX7_eats_5 (by omega) (by omega) ?_
  refine g_iconst (v := 1) 7 rfl dX7_eats_6 (by decide) ?_
  refine gn_iand 8 rfl dX7_eats_7 ?_
  refine gn_if_eq 15 (by decide) 11 rfl dX7_eats_8 (Nat.lt_of_lt_of_le (bt_lt (h.1 (tr i) 6) e) (by omega)) (fun c8 => ?_) (fun c8 => ?_)
  · refine g_iconst (v := 0) 16 rfl dX7_eats_15 (by decide) ?_
    refine g_iret .boolean dX7_eats_16 rfl (rfl) ?_
    refine ⟨congrArg (fun q => some (Value.int (nI q))) ?_, rfl⟩
    have := bt_01 (h.1 (tr i) 6) e
    first | (have q : bt (h.1 (tr i) 6) e = 0 := c8; omega) | (have q : ¬ bt (h.1 (tr i) 6) e = 0 := c8; omega)
  · refine g_iconst (v := 1) 12 rfl dX7_eats_11 (by decide) ?_
    refine g_goto 16 (by decide) dX7_eats_12 ?_
    refine g_iret .boolean dX7_eats_16 rfl (rfl) ?_
    refine ⟨congrArg (fun q => some (Value.int (nI q))) ?_, rfl⟩
    have := bt_01 (h.1 (tr i) 6) e
    first | (have q : bt (h.1 (tr i) 6) e = 0 := c8; omega) | (have q : ¬ bt (h.1 (tr i) 6) e = 0 := c8; omega)
theorem c_X7_hadBread {i e : Nat} (hi : i < 24) (hT : TI (h.1 (tr i))) (he : e < 32) : Rti V 1 yX7_hadBread cX7_hadBread 2 (some .boolean) [rf V (tb i), .int (nI e)] h (nI (bt (h.1 (tr i) 7) e)) h := by
  have h6 := hT.2.2.2.1
  refine Mt_in [some (rf V (tb i)), some (.int (nI e))] (own := RX7) rfl (by decide) (Nat.le_of_ble_eq_true rfl) (fun q hq => hq) ?_
  refine g_aload_n0 1 rfl dX7_hadBread_0 ?_
  refine gf_Table_fed 4 rfl (by omega) fl_RX7_40 dX7_hadBread_1 ?_
  refine g_iload_n1 5 rfl dX7_hadBread_4 ?_
  refine gn_ishr 6 rfl dX7_hadBread_5 (by omega) (by omega) ?_
  refine g_iconst (v := 1) 7 rfl dX7_hadBread_6 (by decide) ?_
  refine gn_iand 8 rfl dX7_hadBread_7 ?_
  refine gn_if_eq 15 (by decide) 11 rfl dX7_hadBread_8 (Nat.lt_of_lt_of_le (bt_lt (h.1 (tr i) 7) e) (by omega)) (fun c8 => ?_) (fun c8 => ?_)
  · refine g_iconst (v := 0) 16 rfl dX7_hadBread_15 (by decide) ?_
    refine g_iret .boolean dX7_hadBread_16 rfl (rfl) ?_
    refine ⟨congrArg (fun q => some (Value.int (nI q))) ?_, rfl⟩
    have := bt_01 (h.1 (tr i) 7) e
    first | (have q : bt (h.1 (tr i) 7) e = 0 := c8; omega) | (have q : ¬ bt (h.1 (tr i) 7) e = 0 := c8; omega)
  · refine g_iconst (v := 1) 12 rfl dX7_hadBread_11 (by decide) ?_
    refine g_goto 16 (by decide) dX7_hadBread_12 ?_
    refine g_iret .boolean dX7_hadBread_16 rfl (rfl) ?_
    refine ⟨congrArg (fun q => some (Value.int (nI q))) ?_, rfl⟩
    have := bt_01 (h.1 (tr i) 7) e
    first | (have q : bt (h.1 (tr i) 7) e = 0 := c8; omega) | (have q : ¬ bt (h.1 (tr i) 7) e = 0 := c8; omega)
theorem c_X7_isBound {i e : Nat} (hi : i < 24) (hT : TI (h.1 (tr i))) (he : e < 32) : Rti V 1 yX7_isBound cX7_isBound 2 (some .boolean) [rf V (tb i), .int (nI e)] h (nI (bt (h.1 (tr i) 8) e)) h := by
  have h6 := hT.2.2.2.2.1
  refine Mt_in [some (rf V (tb i)), some (.int (nI e))] (own := RX7) rfl (by decide) (Nat.le_of_ble_eq_true rfl) (fun q hq => hq) ?_
  refine g_aload_n0 1 rfl dX7_isBound_0 ?_
  refine gf_Table_bound 4 rfl (by omega) fl_RX7_43 dX7_isBound_1 ?_
  refine g_iload_n1 5 rfl dX7_isBound_4 ?_
  refine gn_ishr 6 rfl dX7_isBound_5 (by omega) (by omega) ?_
  refine g_iconst (v := 1) 7 rfl dX7_isBound_6 (by decide) ?_
  refine gn_iand 8 rfl dX7_isBound_7 ?_
  refine gn_if_eq 15 (by decide) 11 rfl dX7_isBound_8 (Nat.lt_of_lt_of_le (bt_lt (h.1 (tr i) 8) e) (by omega)) (fun c8 => ?_) (fun c8 => ?_)
  · refine g_iconst (v := 0) 16 rfl dX7_isBound_15 (by decide) ?_
    refine g_iret .boolean dX7_isBound_16 rfl (rfl) ?_
    refine ⟨congrArg (fun q => some (Value.int (nI q))) ?_, rfl⟩
    have := bt_01 (h.1 (tr i) 8) e
    first | (have q : bt (h.1 (tr i) 8) e = 0 := c8; omega) | (have q : ¬ bt (h.1 (tr i) 8) e = 0 := c8; omega)
  · refine g_iconst (v := 1) 12 rfl dX7_isBound_11 (by decide) ?_
    refine g_goto 16 (by decide) dX7_isBound_12 ?_
    refine g_iret .boolean dX7_isBound_16 rfl (rfl) ?_
    refine ⟨congrArg (fun q => some (Value.int (nI q))) ?_, rfl⟩
    have := bt_01 (h.1 (tr i) 8) e
    first | (have q : bt (h.1 (tr i) 8) e = 0 := c8; omega) | (have q : ¬ bt (h.1 (tr i) 8) e = 0 := c8; omega)
theorem c_X7_canBeSaid {i c : Nat} (hi : i < 24) (hx : XI h) (hc : c < 5) : Rti V 2 yX7_canBeSaid cX7_canBeSaid 2 (some .boolean) [rf V (tb i), .int (nI c)] h (nI (canB (h.1 3 3) (h.1 7) (h.1 (tr i)) c).toNat) h := by
  obtain ⟨hE, hC, x4, x5, x7, x8, hTT⟩ := hx
  have hT := hTT i
  have ho := x8 c
  have hq := x7 (3 * c + 1)
  have hq2 := x7 (3 * c)
  have h0 := hT.1
  refine Mt_in [some (rf V (tb i)), some (.int (nI c))] (own := RX7) rfl (by decide) (Nat.le_of_ble_eq_true rfl) (fun q hq => hq) ?_
  refine g_aload_n0 1 rfl dX7_canBeSaid_0 ?_
  refine gf_Table_rules 4 rfl (by omega) fl_RX7_15 dX7_canBeSaid_1 ?_
  refine g_iload_n1 5 rfl dX7_canBeSaid_4 ?_
  refine g_cv1i 8 rfl cw_RX7_49 dX7_canBeSaid_5 (c_X1_hasClause hC (by omega)) (by decide) (ob_3 V) (Nat.le_of_ble_eq_true rfl) ?_
  refine gn_if_eq 74 (by decide) 11 rfl dX7_canBeSaid_8 (by split <;> omega) (fun c8 => ?_) (fun c8 => ?_)
  · refine g_iconst (v := 0) 75 rfl dX7_canBeSaid_74 (by decide) ?_
    refine g_iret .boolean dX7_canBeSaid_75 rfl (rfl) ?_
    refine ⟨congrArg (fun q => some (Value.int (nI q))) ?_, rfl⟩
    grind [canB]
  · refine g_aload_n0 12 rfl dX7_canBeSaid_11 ?_
    refine g_iload_n1 13 rfl dX7_canBeSaid_12 ?_
    refine g_cv1i 16 rfl cw_RX7_53 dX7_canBeSaid_13 (c_X7_isBound hi hT (by omega)) (by decide) (ob_tb V (by omega)) (Nat.le_of_ble_eq_true rfl) ?_
    refine gn_if_ne 74 (by decide) 19 rfl dX7_canBeSaid_16 (Nat.lt_of_lt_of_le (bt_lt _ _) (by omega)) (fun c16 => ?_) (fun c16 => ?_)
    · refine g_iconst (v := 0) 75 rfl dX7_canBeSaid_74 (by decide) ?_
      refine g_iret .boolean dX7_canBeSaid_75 rfl (rfl) ?_
      refine ⟨congrArg (fun q => some (Value.int (nI q))) ?_, rfl⟩
      grind [canB]
    · refine g_aload_n0 20 rfl dX7_canBeSaid_19 ?_
      refine g_aload_n0 21 rfl dX7_canBeSaid_20 ?_
      refine gf_Table_rules 24 rfl (by omega) fl_RX7_15 dX7_canBeSaid_21 ?_
      refine gf_Rules_owner 27 rfl fl_RX7_56 dX7_canBeSaid_24 ?_
      refine g_iload_n1 28 rfl dX7_canBeSaid_27 ?_
      refine ga_9 29 rfl (by omega) dX7_canBeSaid_28 ?_
      refine g_cv1i 32 rfl cw_RX7_59 dX7_canBeSaid_29 (c_X7_eats hi hT (by omega)) (by decide) (ob_tb V (by omega)) (Nat.le_of_ble_eq_true rfl) ?_
      refine gn_if_eq 74 (by decide) 35 rfl dX7_canBeSaid_32 (Nat.lt_of_lt_of_le (bt_lt _ _) (by omega)) (fun c32 => ?_) (fun c32 => ?_)
      · refine g_iconst (v := 0) 75 rfl dX7_canBeSaid_74 (by decide) ?_
        refine g_iret .boolean dX7_canBeSaid_75 rfl (rfl) ?_
        refine ⟨congrArg (fun q => some (Value.int (nI q))) ?_, rfl⟩
        grind [canB]
      · refine g_aload_n0 36 rfl dX7_canBeSaid_35 ?_
        refine gf_Table_heat 39 rfl (by omega) fl_RX7_25 dX7_canBeSaid_36 ?_
        refine g_aload_n0 40 rfl dX7_canBeSaid_39 ?_
        refine gf_Table_rules 43 rfl (by omega) fl_RX7_15 dX7_canBeSaid_40 ?_
        refine gf_Rules_heatNeeded 46 rfl fl_RX7_62 dX7_canBeSaid_43 ?_
        refine g_iload_n1 47 rfl dX7_canBeSaid_46 ?_
        refine ga_8 48 rfl (by omega) dX7_canBeSaid_47 ?_
        refine gn_icmp_lt 74 (by decide) 51 rfl dX7_canBeSaid_48 (by omega) (by omega) (fun c48 => ?_) (fun c48 => ?_)
        · refine g_iconst (v := 0) 75 rfl dX7_canBeSaid_74 (by decide) ?_
          refine g_iret .boolean dX7_canBeSaid_75 rfl (rfl) ?_
          refine ⟨congrArg (fun q => some (Value.int (nI q))) ?_, rfl⟩
          grind [canB]
        · refine g_aload_n0 52 rfl dX7_canBeSaid_51 ?_
          refine gf_Table_rules 55 rfl (by omega) fl_RX7_15 dX7_canBeSaid_52 ?_
          refine gf_Rules_words 58 rfl fl_RX7_65 dX7_canBeSaid_55 ?_
          refine g_iload_n1 59 rfl dX7_canBeSaid_58 ?_
          refine ga_7 60 rfl (by omega) dX7_canBeSaid_59 ?_
          refine g_aload_n0 61 rfl dX7_canBeSaid_60 ?_
          refine gf_Table_heat 64 rfl (by omega) fl_RX7_25 dX7_canBeSaid_61 ?_
          refine g_cs1i 67 rfl cw_RX7_68 dX7_canBeSaid_64 (c_X1_wordsAt h0) (by decide) (Nat.le_of_ble_eq_true rfl) ?_
          refine gn_icmp_gt 74 (by decide) 70 rfl dX7_canBeSaid_67 (by omega) (by omega) (fun c67 => ?_) (fun c67 => ?_)
          · refine g_iconst (v := 0) 75 rfl dX7_canBeSaid_74 (by decide) ?_
            refine g_iret .boolean dX7_canBeSaid_75 rfl (rfl) ?_
            refine ⟨congrArg (fun q => some (Value.int (nI q))) ?_, rfl⟩
            grind [canB]
          · refine g_iconst (v := 1) 71 rfl dX7_canBeSaid_70 (by decide) ?_
            refine g_goto 75 (by decide) dX7_canBeSaid_71 ?_
            refine g_iret .boolean dX7_canBeSaid_75 rfl (rfl) ?_
            refine ⟨congrArg (fun q => some (Value.int (nI q))) ?_, rfl⟩
            grind [canB]
theorem c_X7_sayable {i : Nat} (hi : i < 24) (hx : XI h) : Rti V 3 yX7_sayable cX7_sayable 3 (some .int) [rf V (tb i)] h (nI (sayB (h.1 3 3) (h.1 7) (h.1 (tr i)) (h.1 3 3))) h := by
  have hC := hx.2.1
  refine Mt_in [some (rf V (tb i)), none, none] (own := RX7) rfl (by decide) (Nat.le_of_ble_eq_true rfl) (fun q hq => hq) ?_
  refine g_iconst (v := 0) 1 rfl dX7_sayable_0 (by decide) ?_
  refine g_istore_n1 2 rfl dX7_sayable_1 (by decide) rfl ?_
  refine g_iconst (v := 0) 3 rfl dX7_sayable_2 (by decide) ?_
  refine g_istore_n2 4 rfl dX7_sayable_3 (by decide) rfl ?_
  skip
  refine loop_up (P := fun c => G V T0 3 RX7 cX7_sayable 3 (some .int) 4 [some (rf V (tb i)), some (.int (nI (sayB (h.1 3 3) (h.1 7) (h.1 (tr i)) c))), some (.int (nI c))] [] h _) (n := h.1 3 3) ?_ (fun c hc ih => ?_) 0 (Nat.zero_le _)
  · refine g_iload_n2 5 rfl dX7_sayable_4 ?_
    refine g_aload_n0 6 rfl dX7_sayable_5 ?_
    refine gf_Table_rules 9 rfl (by omega) fl_RX7_15 dX7_sayable_6 ?_
    refine gf_Rules_clauses 12 rfl fl_RX7_72 dX7_sayable_9 ?_
    refine gn_icmp_ge 35 (by decide) 15 rfl dX7_sayable_12 (by omega) (by omega) (fun c12 => ?_) (fun c12 => absurd c12 (Nat.lt_irrefl _))
    refine g_iload_n1 36 rfl dX7_sayable_35 ?_
    refine g_iret .int dX7_sayable_36 rfl (rfl) ?_
    exact ⟨rfl, rfl⟩
  · refine g_iload_n2 5 rfl dX7_sayable_4 ?_
    refine g_aload_n0 6 rfl dX7_sayable_5 ?_
    refine gf_Table_rules 9 rfl (by omega) fl_RX7_15 dX7_sayable_6 ?_
    refine gf_Rules_clauses 12 rfl fl_RX7_72 dX7_sayable_9 ?_
    refine gn_icmp_ge 35 (by decide) 15 rfl dX7_sayable_12 (by omega) (by omega) (fun c12 => absurd c12 (Nat.not_le_of_lt hc)) (fun c12 => ?_)
    refine g_aload_n0 16 rfl dX7_sayable_15 ?_
    refine g_iload_n2 17 rfl dX7_sayable_16 ?_
    refine g_cv1i 20 rfl cw_RX7_75 dX7_sayable_17 (c_X7_canBeSaid hi hx (by omega)) (by decide) (ob_tb V (by omega)) (Nat.le_of_ble_eq_true rfl) ?_
    refine gn_if_eq 29 (by decide) 23 rfl dX7_sayable_20 (Nat.lt_of_lt_of_le (Bool.toNat_lt _) (by omega)) (fun c20 => ?_) (fun c20 => ?_)
    · refine gn_iinc2 1 32 rfl dX7_sayable_29 rfl (by decide) rfl ?_
      refine g_goto 4 (by decide) dX7_sayable_32 ?_
      first | (rw [show sayB _ _ _ (c + 1) = _ from if_neg (by simpa using c20)] at ih; exact ih) | (rw [show sayB _ _ _ (c + 1) = _ from if_pos (by simpa using c20)] at ih; exact ih)
    · refine g_iload_n1 24 rfl dX7_sayable_23 ?_
      refine g_iconst (v := 1) 25 rfl dX7_sayable_24 (by decide) ?_
      refine g_iload_n2 26 rfl dX7_sayable_25 ?_
      refine gn_ishl 27 rfl dX7_sayable_26 (by omega) ?_
      refine gn_ior 28 rfl dX7_sayable_27 ?_
      refine g_istore_n1 29 rfl dX7_sayable_28 (by decide) rfl ?_
      refine gn_iinc2 1 32 rfl dX7_sayable_29 rfl (by decide) rfl ?_
      refine g_goto 4 (by decide) dX7_sayable_32 ?_
      first | (rw [show sayB _ _ _ (c + 1) = _ from if_neg (by simpa using c20)] at ih; exact ih) | (rw [show sayB _ _ _ (c + 1) = _ from if_pos (by simpa using c20)] at ih; exact ih)
theorem c_X7_bind {i c : Nat} (hi : i < 24) (hc : c < 5) : Rtv V 1 yX7_bind cX7_bind 2 none [rf V (tb i), .int (nI c)] h (sR h (tr i) (bindR (h.1 (tr i)) c)) := by
  refine Mt_in [some (rf V (tb i)), some (.int (nI c))] (own := RX7) rfl (by decide) (Nat.le_of_ble_eq_true rfl) (fun q hq => hq) ?_
  refine g_aload_n0 1 rfl dX7_bind_0 ?_
  refine g_dup 2 rfl dX7_bind_1 rfl ?_
  refine gf_Table_bound 5 rfl (by omega) fl_RX7_43 dX7_bind_2 ?_
  refine g_iconst (v := 1) 6 rfl dX7_bind_5 (by decide) ?_
  refine g_iload_n1 7 rfl dX7_bind_6 ?_
  refine gn_ishl 8 rfl dX7_bind_7 (by omega) ?_
  refine gn_ior 9 rfl dX7_bind_8 ?_
  refine gp_Table_bound 12 rfl (by omega) fl_RX7_43 dX7_bind_9 ?_
  refine g_vret dX7_bind_12 rfl ?_
  exact ⟨rfl, rfl⟩
theorem c_X7_putSeed {i : Nat} (hi : i < 24) (hT : TI (h.1 (tr i))) (hs : 0 < h.1 (tr i) 1) : Rtv V 1 yX7_putSeed cX7_putSeed 1 none [rf V (tb i)] h (sR h (tr i) (seedR (h.1 (tr i)))) := by
  have h0 := hT.1
  refine Mt_in [some (rf V (tb i))] (own := RX7) rfl (by decide) (Nat.le_of_ble_eq_true rfl) (fun q hq => hq) ?_
  refine g_aload_n0 1 rfl dX7_putSeed_0 ?_
  refine g_dup 2 rfl dX7_putSeed_1 rfl ?_
  refine gf_Table_store 5 rfl (by omega) fl_RX7_31 dX7_putSeed_2 ?_
  refine g_iconst (v := 1) 6 rfl dX7_putSeed_5 (by decide) ?_
  refine gn_isub 7 rfl dX7_putSeed_6 (by omega) ?_
  refine gp_Table_store 10 rfl (by omega) fl_RX7_31 dX7_putSeed_7 ?_
  refine g_aload_n0 11 rfl dX7_putSeed_10 ?_
  refine g_bipush (v := 9) 13 rfl dX7_putSeed_11 (by decide) ?_
  refine g_aload_n0 14 rfl dX7_putSeed_13 ?_
  refine gf_Table_heat 17 rfl (by omega) fl_RX7_25 dX7_putSeed_14 ?_
  rw [sR_s, up_n (by omega)]
  refine g_iconst (v := 2) 18 rfl dX7_putSeed_17 (by decide) ?_
  refine gn_iadd 19 rfl dX7_putSeed_18 ?_
  refine gn_min 22 rfl ml_RX7_90 dX7_putSeed_19 (by omega) (by omega) (by decide) (Nat.le_of_ble_eq_true rfl) ?_
  refine gp_Table_heat 25 rfl (by omega) fl_RX7_25 dX7_putSeed_22 ?_
  refine g_vret dX7_putSeed_25 rfl ?_
  exact ⟨rfl, by rw [sR_sR, sR_s]; rfl⟩
theorem c_X7_takeBread {i e : Nat} (hi : i < 24) (hT : TI (h.1 (tr i))) (he : e < 4) : Rtv V 1 yX7_takeBread cX7_takeBread 2 none [rf V (tb i), .int (nI e)] h (sR h (tr i) (breadR (h.1 (tr i)) e)) := by
  have h0 := (hT.2.2.2.2.2.1 e he).1
  refine Mt_in [some (rf V (tb i)), some (.int (nI e))] (own := RX7) rfl (by decide) (Nat.le_of_ble_eq_true rfl) (fun q hq => hq) ?_
  refine g_aload_n0 1 rfl dX7_takeBread_0 ?_
  refine gf_Table_tears 4 rfl (by omega) fl_RX7_9 dX7_takeBread_1 ?_
  refine g_iload_n1 5 rfl dX7_takeBread_4 ?_
  refine g_iconst (v := 0) 6 rfl dX7_takeBread_5 (by decide) ?_
  refine g_aload_n0 7 rfl dX7_takeBread_6 ?_
  refine gf_Table_tears 10 rfl (by omega) fl_RX7_9 dX7_takeBread_7 ?_
  refine g_iload_n1 11 rfl dX7_takeBread_10 ?_
  refine ga_tt 12 rfl (by omega) (by omega) dX7_takeBread_11 ?_
  refine g_iconst (v := 3) 13 rfl dX7_takeBread_12 (by decide) ?_
  refine g_isub 14 rfl dX7_takeBread_13  ?_
  refine g_max 17 rfl ml_RX7_85 dX7_takeBread_14 (by decide) (Nat.le_of_ble_eq_true rfl) ?_
  rw [fx_sub0 (by omega) (by omega)]
  refine gs_tt 18 rfl (by omega) (by omega) dX7_takeBread_17 ?_
  refine g_aload_n0 19 rfl dX7_takeBread_18 ?_
  refine g_dup 20 rfl dX7_takeBread_19 rfl ?_
  refine gf_Table_fed 23 rfl (by omega) fl_RX7_40 dX7_takeBread_20 ?_
  rw [sR_s, up_n (by omega)]
  refine g_iconst (v := 1) 24 rfl dX7_takeBread_23 (by decide) ?_
  refine g_iload_n1 25 rfl dX7_takeBread_24 ?_
  refine gn_ishl 26 rfl dX7_takeBread_25 (by omega) ?_
  refine gn_ior 27 rfl dX7_takeBread_26 ?_
  refine gp_Table_fed 30 rfl (by omega) fl_RX7_40 dX7_takeBread_27 ?_
  refine g_vret dX7_takeBread_30 rfl ?_
  exact ⟨rfl, by rw [sR_sR, sR_s]; rfl⟩
theorem c_X7_takeBite {i : Nat} (hi : i < 24) (hx : XI h) : Rtv V 3 yX7_takeBite cX7_takeBite 2 none [rf V (tb i)] h (sR h (tr i) (bite (h.1 4) (h.1 3 2) (h.1 (tr i)))) := by
  obtain ⟨hE, hC, x4, x5, x7, x8, hTT⟩ := id hx
  have hT := hTT i
  refine Mt_in [some (rf V (tb i)), none] (own := RX7) rfl (by decide) (Nat.le_of_ble_eq_true rfl) (fun q hq => hq) ?_
  refine g_iconst (v := 0) 1 rfl dX7_takeBite_0 (by decide) ?_
  refine g_istore_n1 2 rfl dX7_takeBite_1 (by decide) rfl ?_
  skip
  refine g_heap (sR_same h (tr i)).symm ?_
  refine loop_up (P := fun e => G V T0 3 RX7 cX7_takeBite 2 none 2 [some (rf V (tb i)), some (.int (nI e))] [] (sR h (tr i) (biteN (h.1 4) (h.1 (tr i)) e)) _) (n := h.1 3 2) ?_ (fun e he ih => ?_) 0 (Nat.zero_le _)
  · have hN := TI_biteN hT x4 (h.1 3 2) hE
    have h0 := hN.1
    refine g_iload_n1 3 rfl dX7_takeBite_2 ?_
    refine g_aload_n0 4 rfl dX7_takeBite_3 ?_
    refine gf_Table_rules 7 rfl (by omega) fl_RX7_15 dX7_takeBite_4 ?_
    refine gf_Rules_envoys 10 rfl fl_RX7_34 dX7_takeBite_7 ?_
    rw [sR_t3]
    refine gn_icmp_ge 79 (by decide) 13 rfl dX7_takeBite_10 (by omega) (by omega) (fun c10 => ?_) (fun c10 => absurd c10 (Nat.lt_irrefl _))
    refine g_aload_n0 80 rfl dX7_takeBite_79 ?_
    refine g_iconst (v := 0) 81 rfl dX7_takeBite_80 (by decide) ?_
    refine g_aload_n0 82 rfl dX7_takeBite_81 ?_
    refine gf_Table_heat 85 rfl (by omega) fl_RX7_25 dX7_takeBite_82 ?_
    rw [sR_s]
    refine g_iconst (v := 1) 86 rfl dX7_takeBite_85 (by decide) ?_
    refine g_isub 87 rfl dX7_takeBite_86  ?_
    refine g_max 90 rfl ml_RX7_85 dX7_takeBite_87 (by decide) (Nat.le_of_ble_eq_true rfl) ?_
    rw [fx_sub0 (by omega) (by omega)]
    refine gp_Table_heat 93 rfl (by omega) fl_RX7_25 dX7_takeBite_90 ?_
    refine g_aload_n0 94 rfl dX7_takeBite_93 ?_
    refine g_dup 95 rfl dX7_takeBite_94 rfl ?_
    refine gf_Table_bites 98 rfl (by omega) fl_RX7_46 dX7_takeBite_95 ?_
    rw [sR_s, sR_s, up_n (by omega)]
    refine g_iconst (v := 1) 99 rfl dX7_takeBite_98 (by decide) ?_
    refine gn_iadd 100 rfl dX7_takeBite_99 ?_
    refine gp_Table_bites 103 rfl (by omega) fl_RX7_46 dX7_takeBite_100 ?_
    refine g_vret dX7_takeBite_103 rfl ?_
    exact ⟨rfl, by simp only [sR_s, sR_sR]; rfl⟩
  · have hN := TI_biteN hT x4 e (by omega)
    have hX := XI_tr hx (i := i) hN
    change G V T0 3 RX7 cX7_takeBite 2 none 2 _ [] (sR h (tr i) (bite1 (h.1 4) e (biteN (h.1 4) (h.1 (tr i)) e))) _ at ih
    generalize biteN (h.1 4) (h.1 (tr i)) e = T at hN hX ih ⊢
    have hp := pain_le (k := h.1 4 (3 * e + 2)) (p := h.1 4 (3 * e)) hN.1
    have ht := (hN.2.2.2.2.2.1 e (by omega)).1
    have hw := x4 (3 * e + 1)
    have h6 := hN.2.2.1
    refine g_iload_n1 3 rfl dX7_takeBite_2 ?_
    refine g_aload_n0 4 rfl dX7_takeBite_3 ?_
    refine gf_Table_rules 7 rfl (by omega) fl_RX7_15 dX7_takeBite_4 ?_
    refine gf_Rules_envoys 10 rfl fl_RX7_34 dX7_takeBite_7 ?_
    rw [sR_t3]
    refine gn_icmp_ge 79 (by decide) 13 rfl dX7_takeBite_10 (by omega) (by omega) (fun c10 => absurd c10 (Nat.not_le_of_lt he)) (fun c10 => ?_)
    refine g_aload_n0 14 rfl dX7_takeBite_13 ?_
    refine g_iload_n1 15 rfl dX7_takeBite_14 ?_
    refine g_cv1i 18 rfl cw_RX7_59 dX7_takeBite_15 (c_X7_eats hi (by rw [sR_s]; exact hN) (by omega)) (by decide) (ob_tb V (by omega)) (Nat.le_of_ble_eq_true rfl) ?_
    rw [sR_s]
    refine gn_if_eq 73 (by decide) 21 rfl dX7_takeBite_18 (Nat.lt_of_lt_of_le (bt_lt _ _) (by omega)) (fun c18 => ?_) (fun c18 => ?_)
    · try rw [sR_s, sR_sR]
      refine gn_iinc1 1 76 rfl dX7_takeBite_73 rfl (by decide) rfl ?_
      refine g_goto 2 (by decide) dX7_takeBite_76 ?_
      first | (rw [show bite1 (h.1 4) e T = T from if_pos c18] at ih; exact ih) | (rw [show bite1 (h.1 4) e T = _ from (if_neg c18).trans (if_pos c56)] at ih; exact ih) | (rw [show bite1 (h.1 4) e T = _ from (if_neg c18).trans (if_neg (Nat.not_lt.mpr c56))] at ih; exact ih)
    · refine g_aload_n0 22 rfl dX7_takeBite_21 ?_
      refine gf_Table_tears 25 rfl (by omega) fl_RX7_9 dX7_takeBite_22 ?_
      refine g_iload_n1 26 rfl dX7_takeBite_25 ?_
      refine g_dup2 27 rfl dX7_takeBite_26 rfl rfl ?_
      refine ga_tt 28 rfl (by omega) (by omega) dX7_takeBite_27 ?_
      rw [sR_s]
      refine g_aload_n0 29 rfl dX7_takeBite_28 ?_
      refine gf_Table_rules 32 rfl (by omega) fl_RX7_15 dX7_takeBite_29 ?_
      refine g_iload_n1 33 rfl dX7_takeBite_32 ?_
      refine g_aload_n0 34 rfl dX7_takeBite_33 ?_
      refine gf_Table_heat 37 rfl (by omega) fl_RX7_25 dX7_takeBite_34 ?_
      rw [sR_s]
      refine g_cv2i 40 rfl cw_RX7_78 dX7_takeBite_37 (c_X1_pain (by omega) (by rw [sR_t4]; exact x5 e) (by rw [sR_t4]; exact x4 _) hN.1) (by decide) (ob_3 V) (Nat.le_of_ble_eq_true rfl) ?_
      rw [sR_t4]
      refine gn_iadd 41 rfl dX7_takeBite_40 ?_
      refine gs_tt 42 rfl (by omega) (by omega) dX7_takeBite_41 ?_
      rw [sR_s, sR_sR]
      refine g_aload_n0 43 rfl dX7_takeBite_42 ?_
      refine gf_Table_tears 46 rfl (by omega) fl_RX7_9 dX7_takeBite_43 ?_
      refine g_iload_n1 47 rfl dX7_takeBite_46 ?_
      refine ga_tt 48 rfl (by omega) (by omega) dX7_takeBite_47 ?_
      rw [sR_s, up_s]
      refine g_aload_n0 49 rfl dX7_takeBite_48 ?_
      refine gf_Table_rules 52 rfl (by omega) fl_RX7_15 dX7_takeBite_49 ?_
      refine g_iload_n1 53 rfl dX7_takeBite_52 ?_
      refine g_cv1i 56 rfl cw_RX7_82 dX7_takeBite_53 (c_X1_tearsToStop (by omega)) (by decide) (ob_3 V) (Nat.le_of_ble_eq_true rfl) ?_
      rw [sR_t4]
      refine gn_icmp_lt 73 (by decide) 59 rfl dX7_takeBite_56 (by omega) (by omega) (fun c56 => ?_) (fun c56 => ?_)
      · try rw [sR_s, sR_sR]
        refine gn_iinc1 1 76 rfl dX7_takeBite_73 rfl (by decide) rfl ?_
        refine g_goto 2 (by decide) dX7_takeBite_76 ?_
        first | (rw [show bite1 (h.1 4) e T = T from if_pos c18] at ih; exact ih) | (rw [show bite1 (h.1 4) e T = _ from (if_neg c18).trans (if_pos c56)] at ih; exact ih) | (rw [show bite1 (h.1 4) e T = _ from (if_neg c18).trans (if_neg (Nat.not_lt.mpr c56))] at ih; exact ih)
      · refine g_aload_n0 60 rfl dX7_takeBite_59 ?_
        refine g_dup 61 rfl dX7_takeBite_60 rfl ?_
        refine gf_Table_eating 64 rfl (by omega) fl_RX7_37 dX7_takeBite_61 ?_
        rw [sR_s, up_n (by omega)]
        refine g_iconst (v := 1) 65 rfl dX7_takeBite_64 (by decide) ?_
        refine g_iload_n1 66 rfl dX7_takeBite_65 ?_
        refine gn_ishl 67 rfl dX7_takeBite_66 (by omega) ?_
        refine g_iconst (v := 4294967295) 68 rfl dX7_takeBite_67 (by decide) ?_
        refine gn_ixor 69 rfl dX7_takeBite_68 ?_
        refine gn_iand 70 rfl dX7_takeBite_69 ?_
        refine gp_Table_eating 73 rfl (by omega) fl_RX7_37 dX7_takeBite_70 ?_
        try rw [sR_s, sR_sR]
        refine gn_iinc1 1 76 rfl dX7_takeBite_73 rfl (by decide) rfl ?_
        refine g_goto 2 (by decide) dX7_takeBite_76 ?_
        first | (rw [show bite1 (h.1 4) e T = T from if_pos c18] at ih; exact ih) | (rw [show bite1 (h.1 4) e T = _ from (if_neg c18).trans (if_pos c56)] at ih; exact ih) | (rw [show bite1 (h.1 4) e T = _ from (if_neg c18).trans (if_neg (Nat.not_lt.mpr c56))] at ih; exact ih)
def layR (H S n : Nat) : Nat → Nat := fun o => if o = 0 then H else if o = 1 then S else if o = 6 then 1 * 2 ^ n - 1 else 0
theorem c_X7_layAnew {i : Nat} (hi : i < 24) (hx : XI h) : Rtv V 1 yX7_layAnew cX7_layAnew 2 none [rf V (tb i)] h (sR h (tr i) (layR (h.1 3 0) (h.1 3 1) (h.1 3 2))) := by
  obtain ⟨hE, hC, x4, x5, x7, x8, hTT⟩ := id hx
  have hT := hTT i
  refine Mt_in [some (rf V (tb i)), none] (own := RX7) rfl (by decide) (Nat.le_of_ble_eq_true rfl) (fun q hq => hq) ?_
  refine g_aload_n0 1 rfl dX7_layAnew_0 ?_
  refine g_aload_n0 2 rfl dX7_layAnew_1 ?_
  refine gf_Table_rules 5 rfl (by omega) fl_RX7_15 dX7_layAnew_2 ?_
  refine gf_Rules_heatAtFirst 8 rfl fl_RX7_19 dX7_layAnew_5 ?_
  refine gp_Table_heat 11 rfl (by omega) fl_RX7_25 dX7_layAnew_8 ?_
  refine g_aload_n0 12 rfl dX7_layAnew_11 ?_
  refine g_aload_n0 13 rfl dX7_layAnew_12 ?_
  refine gf_Table_rules 16 rfl (by omega) fl_RX7_15 dX7_layAnew_13 ?_
  refine gf_Rules_storeAtFirst 19 rfl fl_RX7_28 dX7_layAnew_16 ?_
  rw [sR_t3]
  refine gp_Table_store 22 rfl (by omega) fl_RX7_31 dX7_layAnew_19 ?_
  rw [sR_sR, sR_s]
  refine g_aload_n0 23 rfl dX7_layAnew_22 ?_
  refine g_iconst (v := 1) 24 rfl dX7_layAnew_23 (by decide) ?_
  refine g_aload_n0 25 rfl dX7_layAnew_24 ?_
  refine gf_Table_rules 28 rfl (by omega) fl_RX7_15 dX7_layAnew_25 ?_
  refine gf_Rules_envoys 31 rfl fl_RX7_34 dX7_layAnew_28 ?_
  rw [sR_t3]
  refine gn_ishl 32 rfl dX7_layAnew_31 (by omega) ?_
  refine g_iconst (v := 1) 33 rfl dX7_layAnew_32 (by decide) ?_
  refine gn_isub 34 rfl dX7_layAnew_33 (by have := Nat.two_pow_pos (h.1 3 2); omega) ?_
  refine gp_Table_eating 37 rfl (by omega) fl_RX7_37 dX7_layAnew_34 ?_
  rw [sR_sR, sR_s]
  refine g_aload_n0 38 rfl dX7_layAnew_37 ?_
  refine g_iconst (v := 0) 39 rfl dX7_layAnew_38 (by decide) ?_
  refine gp_Table_fed 42 rfl (by omega) fl_RX7_40 dX7_layAnew_39 ?_
  rw [sR_sR, sR_s]
  refine g_aload_n0 43 rfl dX7_layAnew_42 ?_
  refine g_iconst (v := 0) 44 rfl dX7_layAnew_43 (by decide) ?_
  refine gp_Table_bound 47 rfl (by omega) fl_RX7_43 dX7_layAnew_44 ?_
  rw [sR_sR, sR_s]
  refine g_aload_n0 48 rfl dX7_layAnew_47 ?_
  refine g_iconst (v := 0) 49 rfl dX7_layAnew_48 (by decide) ?_
  refine gp_Table_bites 52 rfl (by omega) fl_RX7_46 dX7_layAnew_49 ?_
  rw [sR_sR, sR_s]
  refine g_iconst (v := 0) 53 rfl dX7_layAnew_52 (by decide) ?_
  refine g_istore_n1 54 rfl dX7_layAnew_53 (by decide) rfl ?_
  skip
  generalize hF : up (up (up (up (up (up (h.1 (tr i)) 0 (h.1 3 0)) 1 (h.1 3 1)) 6 (1 * 2 ^ h.1 3 2 - 1)) 7 0) 8 0) 9 0 = F
  refine g_heap (show sR h (tr i) F = sR h (tr i) (fun o => if 2 ≤ o ∧ o < 2 + 0 then 0 else F o) from congrArg (sR h (tr i)) (funext fun o => (if_neg (by omega)).symm)) ?_
  refine loop_up (P := fun e => G V T0 1 RX7 cX7_layAnew 2 none 54 [some (rf V (tb i)), some (.int (nI e))] [] (sR h (tr i) (fun o => if 2 ≤ o ∧ o < 2 + e then 0 else F o)) _) (n := 4) ?_ (fun e he ih => ?_) 0 (Nat.zero_le _)
  · refine g_iload_n1 55 rfl dX7_layAnew_54 ?_
    refine g_iconst (v := 4) 56 rfl dX7_layAnew_55 (by decide) ?_
    refine gn_icmp_ge 72 (by decide) 59 rfl dX7_layAnew_56 (by omega) (by omega) (fun c56 => ?_) (fun c56 => absurd c56 (by omega))
    refine g_vret dX7_layAnew_72 rfl ?_
    refine ⟨rfl, congrArg (sR h (tr i)) (funext fun o => ?_)⟩
    subst hF
    have hz := hT.2.2.2.2.2.2 o
    simp only [layR, up]
    grind
  · refine g_iload_n1 55 rfl dX7_layAnew_54 ?_
    refine g_iconst (v := 4) 56 rfl dX7_layAnew_55 (by decide) ?_
    refine gn_icmp_ge 72 (by decide) 59 rfl dX7_layAnew_56 (by omega) (by omega) (fun c56 => absurd c56 (by omega)) (fun c56 => ?_)
    refine g_aload_n0 60 rfl dX7_layAnew_59 ?_
    refine gf_Table_tears 63 rfl (by omega) fl_RX7_9 dX7_layAnew_60 ?_
    refine g_iload_n1 64 rfl dX7_layAnew_63 ?_
    refine g_iconst (v := 0) 65 rfl dX7_layAnew_64 (by decide) ?_
    refine gs_tt 66 rfl (by omega) (by omega) dX7_layAnew_65 ?_
    refine gn_iinc1 1 69 rfl dX7_layAnew_66 rfl (by decide) rfl ?_
    refine g_goto 54 (by decide) dX7_layAnew_69 ?_
    rw [sR_s, sR_sR]
    refine g_heap (congrArg (sR h (tr i)) (funext fun o => ?_)) ih
    simp only [up]
    grind
theorem c_X7_copyFrom {i b : Nat} (hi : i < 24) (hb : b < 24) (hne : b ≠ i) (hx : XI h) : Rtv V 1 yX7_copyFrom cX7_copyFrom 3 none [rf V (tb i), rf V (tb b)] h (sR h (tr i) (h.1 (tr b))) := by
  obtain ⟨hE, hC, x4, x5, x7, x8, hTT⟩ := id hx
  have hT := hTT i
  have hB := hTT b
  have hr : ∀ f, (sR h (tr i) f).1 (tr b) = h.1 (tr b) := fun f => sR_n (tr_ne hne)
  refine Mt_in [some (rf V (tb i)), some (rf V (tb b)), none] (own := RX7) rfl (by decide) (Nat.le_of_ble_eq_true rfl) (fun q hq => hq) ?_
  refine g_aload_n0 1 rfl dX7_copyFrom_0 ?_
  refine g_aload_n1 2 rfl dX7_copyFrom_1 ?_
  refine gf_Table_heat 5 rfl (by omega) fl_RX7_25 dX7_copyFrom_2 ?_
  refine gp_Table_heat 8 rfl (by omega) fl_RX7_25 dX7_copyFrom_5 ?_
  refine g_aload_n0 9 rfl dX7_copyFrom_8 ?_
  refine g_aload_n1 10 rfl dX7_copyFrom_9 ?_
  refine gf_Table_store 13 rfl (by omega) fl_RX7_31 dX7_copyFrom_10 ?_
  rw [hr]
  refine gp_Table_store 16 rfl (by omega) fl_RX7_31 dX7_copyFrom_13 ?_
  try rw [sR_sR, sR_s]
  refine g_aload_n0 17 rfl dX7_copyFrom_16 ?_
  refine g_aload_n1 18 rfl dX7_copyFrom_17 ?_
  refine gf_Table_eating 21 rfl (by omega) fl_RX7_37 dX7_copyFrom_18 ?_
  rw [hr]
  refine gp_Table_eating 24 rfl (by omega) fl_RX7_37 dX7_copyFrom_21 ?_
  try rw [sR_sR, sR_s]
  refine g_aload_n0 25 rfl dX7_copyFrom_24 ?_
  refine g_aload_n1 26 rfl dX7_copyFrom_25 ?_
  refine gf_Table_fed 29 rfl (by omega) fl_RX7_40 dX7_copyFrom_26 ?_
  rw [hr]
  refine gp_Table_fed 32 rfl (by omega) fl_RX7_40 dX7_copyFrom_29 ?_
  try rw [sR_sR, sR_s]
  refine g_aload_n0 33 rfl dX7_copyFrom_32 ?_
  refine g_aload_n1 34 rfl dX7_copyFrom_33 ?_
  refine gf_Table_bound 37 rfl (by omega) fl_RX7_43 dX7_copyFrom_34 ?_
  rw [hr]
  refine gp_Table_bound 40 rfl (by omega) fl_RX7_43 dX7_copyFrom_37 ?_
  try rw [sR_sR, sR_s]
  refine g_aload_n0 41 rfl dX7_copyFrom_40 ?_
  refine g_aload_n1 42 rfl dX7_copyFrom_41 ?_
  refine gf_Table_bites 45 rfl (by omega) fl_RX7_46 dX7_copyFrom_42 ?_
  rw [hr]
  refine gp_Table_bites 48 rfl (by omega) fl_RX7_46 dX7_copyFrom_45 ?_
  try rw [sR_sR, sR_s]
  refine g_iconst (v := 0) 49 rfl dX7_copyFrom_48 (by decide) ?_
  refine g_istore_n2 50 rfl dX7_copyFrom_49 (by decide) rfl ?_
  skip
  generalize hF : up (up (up (up (up (up (h.1 (tr i)) 0 (h.1 (tr b) 0)) 1 (h.1 (tr b) 1)) 6 (h.1 (tr b) 6)) 7 (h.1 (tr b) 7)) 8 (h.1 (tr b) 8)) 9 (h.1 (tr b) 9) = F
  refine g_heap (show sR h (tr i) F = sR h (tr i) (fun o => if 2 ≤ o ∧ o < 2 + 0 then h.1 (tr b) o else F o) from congrArg (sR h (tr i)) (funext fun o => (if_neg (by omega)).symm)) ?_
  refine loop_up (P := fun e => G V T0 1 RX7 cX7_copyFrom 3 none 50 [some (rf V (tb i)), some (rf V (tb b)), some (.int (nI e))] [] (sR h (tr i) (fun o => if 2 ≤ o ∧ o < 2 + e then h.1 (tr b) o else F o)) _) (n := 4) ?_ (fun e he ih => ?_) 0 (Nat.zero_le _)
  · refine g_iload_n2 51 rfl dX7_copyFrom_50 ?_
    refine g_iconst (v := 4) 52 rfl dX7_copyFrom_51 (by decide) ?_
    refine gn_icmp_ge 73 (by decide) 55 rfl dX7_copyFrom_52 (by omega) (by omega) (fun c52 => ?_) (fun c52 => absurd c52 (by omega))
    refine g_vret dX7_copyFrom_73 rfl ?_
    refine ⟨rfl, congrArg (sR h (tr i)) (funext fun o => ?_)⟩
    subst hF
    have hz := hT.2.2.2.2.2.2 o
    have hz2 := hB.2.2.2.2.2.2 o
    simp only [up]
    grind
  · refine g_iload_n2 51 rfl dX7_copyFrom_50 ?_
    refine g_iconst (v := 4) 52 rfl dX7_copyFrom_51 (by decide) ?_
    refine gn_icmp_ge 73 (by decide) 55 rfl dX7_copyFrom_52 (by omega) (by omega) (fun c52 => absurd c52 (by omega)) (fun c52 => ?_)
    refine g_aload_n0 56 rfl dX7_copyFrom_55 ?_
    refine gf_Table_tears 59 rfl (by omega) fl_RX7_9 dX7_copyFrom_56 ?_
    refine g_iload_n2 60 rfl dX7_copyFrom_59 ?_
    refine g_aload_n1 61 rfl dX7_copyFrom_60 ?_
    refine gf_Table_tears 64 rfl (by omega) fl_RX7_9 dX7_copyFrom_61 ?_
    refine g_iload_n2 65 rfl dX7_copyFrom_64 ?_
    refine ga_tt 66 rfl (by omega) (by omega) dX7_copyFrom_65 ?_
    rw [hr]
    refine gs_tt 67 rfl (by omega) (by omega) dX7_copyFrom_66 ?_
    refine gn_iinc2 1 70 rfl dX7_copyFrom_67 rfl (by decide) rfl ?_
    refine g_goto 50 (by decide) dX7_copyFrom_70 ?_
    rw [sR_s, sR_sR]
    refine g_heap (congrArg (sR h (tr i)) (funext fun o => ?_)) ih
    simp only [up]
    grind
def turnC (n : Nat) (C T : Nat → Nat) (f : Nat) : Bool := if f = 0 then decide (T 6 ≠ 0) else if f = 6 then decide (T 1 ≠ 0) else if f = 7 then true else canB n C T (f - 1)
def turnR (E : Nat → Nat) (n : Nat) (T : Nat → Nat) (f : Nat) : Nat → Nat := if f = 0 then bite E n T else if f = 6 then seedR T else if f = 7 then T else bindR T (f - 1)
theorem c_X7_changeBy {i f : Nat} (hi : i < 24) (hx : XI h) (hf : f < 8) (hs : f = 6 → 0 < h.1 (tr i) 1) : Rtv V 4 yX7_changeBy cX7_changeBy 2 none [rf V (tb i), .int (nI f)] h (sR h (tr i) (turnR (h.1 4) (h.1 3 2) (h.1 (tr i)) f)) := by
  have hT := hx.2.2.2.2.2.2 i
  refine Mt_in [some (rf V (tb i)), some (.int (nI f))] (own := RX7) rfl (by decide) (Nat.le_of_ble_eq_true rfl) (fun q hq => hq) ?_
  rcases (show f = 0 ∨ f = 6 ∨ f = 7 ∨ f = 1 ∨ f = 2 ∨ f = 3 ∨ f = 4 ∨ f = 5 by omega) with rfl | rfl | rfl | rfl | rfl | rfl | rfl | rfl
  · refine g_iload_n1 1 rfl dX7_changeBy_0 ?_
    refine g_lsw (off := 35) 36 dX7_changeBy_1 (by decide) (by decide +kernel) (by decide) ?_
    refine g_aload_n0 37 rfl dX7_changeBy_36 ?_
    refine g_cv0v 40 rfl cw_RX7_97 dX7_changeBy_37 (c_X7_takeBite hi hx) (by decide) (ob_tb V (by omega)) (Nat.le_of_ble_eq_true rfl) ?_
    refine g_goto 60 (by decide) dX7_changeBy_40 ?_
    refine g_vret dX7_changeBy_60 rfl ?_
    exact ⟨rfl, rfl⟩
  · refine g_iload_n1 1 rfl dX7_changeBy_0 ?_
    refine g_lsw (off := 42) 43 dX7_changeBy_1 (by decide) (by decide +kernel) (by decide) ?_
    refine g_aload_n0 44 rfl dX7_changeBy_43 ?_
    refine g_cv0v 47 rfl cw_RX7_100 dX7_changeBy_44 (c_X7_putSeed hi hT (hs rfl)) (by decide) (ob_tb V (by omega)) (Nat.le_of_ble_eq_true rfl) ?_
    refine g_goto 60 (by decide) dX7_changeBy_47 ?_
    refine g_vret dX7_changeBy_60 rfl ?_
    exact ⟨rfl, rfl⟩
  · refine g_iload_n1 1 rfl dX7_changeBy_0 ?_
    refine g_lsw (off := 49) 50 dX7_changeBy_1 (by decide) (by decide +kernel) (by decide) ?_
    refine g_goto 60 (by decide) dX7_changeBy_50 ?_
    refine g_vret dX7_changeBy_60 rfl ?_
    exact ⟨rfl, (sR_same h (tr i)).symm⟩
  · refine g_iload_n1 1 rfl dX7_changeBy_0 ?_
    refine g_lsw (off := 52) 53 dX7_changeBy_1 (by decide) (by decide +kernel) (by decide) ?_
    refine g_aload_n0 54 rfl dX7_changeBy_53 ?_
    refine g_iload_n1 55 rfl dX7_changeBy_54 ?_
    refine g_iconst (v := 1) 56 rfl dX7_changeBy_55 (by decide) ?_
    refine gn_isub 57 rfl dX7_changeBy_56 (by omega) ?_
    refine g_cv1v 60 rfl cw_RX7_103 dX7_changeBy_57 (c_X7_bind hi (by omega)) (by decide) (ob_tb V (by omega)) (Nat.le_of_ble_eq_true rfl) ?_
    refine g_vret dX7_changeBy_60 rfl ?_
    exact ⟨rfl, rfl⟩
  · refine g_iload_n1 1 rfl dX7_changeBy_0 ?_
    refine g_lsw (off := 52) 53 dX7_changeBy_1 (by decide) (by decide +kernel) (by decide) ?_
    refine g_aload_n0 54 rfl dX7_changeBy_53 ?_
    refine g_iload_n1 55 rfl dX7_changeBy_54 ?_
    refine g_iconst (v := 1) 56 rfl dX7_changeBy_55 (by decide) ?_
    refine gn_isub 57 rfl dX7_changeBy_56 (by omega) ?_
    refine g_cv1v 60 rfl cw_RX7_103 dX7_changeBy_57 (c_X7_bind hi (by omega)) (by decide) (ob_tb V (by omega)) (Nat.le_of_ble_eq_true rfl) ?_
    refine g_vret dX7_changeBy_60 rfl ?_
    exact ⟨rfl, rfl⟩
  · refine g_iload_n1 1 rfl dX7_changeBy_0 ?_
    refine g_lsw (off := 52) 53 dX7_changeBy_1 (by decide) (by decide +kernel) (by decide) ?_
    refine g_aload_n0 54 rfl dX7_changeBy_53 ?_
    refine g_iload_n1 55 rfl dX7_changeBy_54 ?_
    refine g_iconst (v := 1) 56 rfl dX7_changeBy_55 (by decide) ?_
    refine gn_isub 57 rfl dX7_changeBy_56 (by omega) ?_
    refine g_cv1v 60 rfl cw_RX7_103 dX7_changeBy_57 (c_X7_bind hi (by omega)) (by decide) (ob_tb V (by omega)) (Nat.le_of_ble_eq_true rfl) ?_
    refine g_vret dX7_changeBy_60 rfl ?_
    exact ⟨rfl, rfl⟩
  · refine g_iload_n1 1 rfl dX7_changeBy_0 ?_
    refine g_lsw (off := 52) 53 dX7_changeBy_1 (by decide) (by decide +kernel) (by decide) ?_
    refine g_aload_n0 54 rfl dX7_changeBy_53 ?_
    refine g_iload_n1 55 rfl dX7_changeBy_54 ?_
    refine g_iconst (v := 1) 56 rfl dX7_changeBy_55 (by decide) ?_
    refine gn_isub 57 rfl dX7_changeBy_56 (by omega) ?_
    refine g_cv1v 60 rfl cw_RX7_103 dX7_changeBy_57 (c_X7_bind hi (by omega)) (by decide) (ob_tb V (by omega)) (Nat.le_of_ble_eq_true rfl) ?_
    refine g_vret dX7_changeBy_60 rfl ?_
    exact ⟨rfl, rfl⟩
  · refine g_iload_n1 1 rfl dX7_changeBy_0 ?_
    refine g_lsw (off := 52) 53 dX7_changeBy_1 (by decide) (by decide +kernel) (by decide) ?_
    refine g_aload_n0 54 rfl dX7_changeBy_53 ?_
    refine g_iload_n1 55 rfl dX7_changeBy_54 ?_
    refine g_iconst (v := 1) 56 rfl dX7_changeBy_55 (by decide) ?_
    refine gn_isub 57 rfl dX7_changeBy_56 (by omega) ?_
    refine g_cv1v 60 rfl cw_RX7_103 dX7_changeBy_57 (c_X7_bind hi (by omega)) (by decide) (ob_tb V (by omega)) (Nat.le_of_ble_eq_true rfl) ?_
    refine g_vret dX7_changeBy_60 rfl ?_
    exact ⟨rfl, rfl⟩
theorem c_X7_takeTurn {i f : Nat} (hi : i < 24) (hx : XI h) (hf : f < 8) : Rti V 5 yX7_takeTurn cX7_takeTurn 3 (some .boolean) [rf V (tb i), .int (nI f)] h (nI (turnC (h.1 3 3) (h.1 7) (h.1 (tr i)) f).toNat) (sR h (tr i) (if turnC (h.1 3 3) (h.1 7) (h.1 (tr i)) f then turnR (h.1 4) (h.1 3 2) (h.1 (tr i)) f else h.1 (tr i))) := by
  have hT := hx.2.2.2.2.2.2 i
  have h6 := hT.2.2.1
  have h1 := hT.2.1
  refine Mt_in [some (rf V (tb i)), some (.int (nI f)), none] (own := RX7) rfl (by decide) (Nat.le_of_ble_eq_true rfl) (fun q hq => hq) ?_
  have J : ∀ b : Bool, (f = 6 → b = true → 0 < h.1 (tr i) 1) → G V T0 5 RX7 cX7_takeTurn 3 (some .boolean) 81 [some (rf V (tb i)), some (.int (nI f)), some (.int (nI b.toNat))] [] h (fun v g => v = some (.int (nI b.toNat)) ∧ g = sR h (tr i) (if b then turnR (h.1 4) (h.1 3 2) (h.1 (tr i)) f else h.1 (tr i))) := by
    intro b hb
    cases b with
    | false =>
      refine g_iload_n2 82 rfl dX7_takeTurn_81 ?_
      refine gn_if_eq 90 (by decide) 85 rfl dX7_takeTurn_82 (by decide) (fun c82 => ?_) (fun c82 => absurd rfl c82)
      refine g_iload_n2 91 rfl dX7_takeTurn_90 ?_
      refine g_iret .boolean dX7_takeTurn_91 rfl (rfl) ?_
      exact ⟨rfl, (sR_same h (tr i)).symm⟩
    | true =>
      refine g_iload_n2 82 rfl dX7_takeTurn_81 ?_
      refine gn_if_eq 90 (by decide) 85 rfl dX7_takeTurn_82 (by decide) (fun c82 => absurd c82 (by decide)) (fun c82 => ?_)
      refine g_aload_n0 86 rfl dX7_takeTurn_85 ?_
      refine g_iload_n1 87 rfl dX7_takeTurn_86 ?_
      refine g_cv1v 90 rfl cw_RX7_93 dX7_takeTurn_87 (c_X7_changeBy hi hx hf (fun q => hb q rfl)) (by decide) (ob_tb V (by omega)) (Nat.le_of_ble_eq_true rfl) ?_
      refine g_iload_n2 91 rfl dX7_takeTurn_90 ?_
      refine g_iret .boolean dX7_takeTurn_91 rfl (rfl) ?_
      exact ⟨rfl, rfl⟩
  rcases (show f = 0 ∨ f = 6 ∨ f = 7 ∨ f = 1 ∨ f = 2 ∨ f = 3 ∨ f = 4 ∨ f = 5 by omega) with rfl | rfl | rfl | rfl | rfl | rfl | rfl | rfl
  · refine g_iload_n1 1 rfl dX7_takeTurn_0 ?_
    refine g_lsw (off := 35) 36 dX7_takeTurn_1 (by decide) (by decide +kernel) (by decide) ?_
    refine g_aload_n0 37 rfl dX7_takeTurn_36 ?_
    refine gf_Table_eating 40 rfl (by omega) fl_RX7_37 dX7_takeTurn_37 ?_
    refine gn_if_eq 47 (by decide) 43 rfl dX7_takeTurn_40 (by omega) (fun c40 => ?_) (fun c40 => ?_)
    · refine g_iconst (v := 0) 48 rfl dX7_takeTurn_47 (by decide) ?_
      refine g_istore_n2 49 rfl dX7_takeTurn_48 (by decide) rfl ?_
      refine g_goto 81 (by decide) dX7_takeTurn_49 ?_
      rw [show turnC (h.1 3 3) (h.1 7) (h.1 (tr i)) 0 = _ from by first | exact decide_eq_false (fun q => q c40) | exact decide_eq_true c40]
      exact J _ (fun q => absurd q (by decide))
    · refine g_iconst (v := 1) 44 rfl dX7_takeTurn_43 (by decide) ?_
      refine g_goto 48 (by decide) dX7_takeTurn_44 ?_
      refine g_istore_n2 49 rfl dX7_takeTurn_48 (by decide) rfl ?_
      refine g_goto 81 (by decide) dX7_takeTurn_49 ?_
      rw [show turnC (h.1 3 3) (h.1 7) (h.1 (tr i)) 0 = _ from by first | exact decide_eq_false (fun q => q c40) | exact decide_eq_true c40]
      exact J _ (fun q => absurd q (by decide))
  · refine g_iload_n1 1 rfl dX7_takeTurn_0 ?_
    refine g_lsw (off := 51) 52 dX7_takeTurn_1 (by decide) (by decide +kernel) (by decide) ?_
    refine g_aload_n0 53 rfl dX7_takeTurn_52 ?_
    refine gf_Table_store 56 rfl (by omega) fl_RX7_31 dX7_takeTurn_53 ?_
    refine gn_if_le 63 (by decide) 59 rfl dX7_takeTurn_56 (by omega) (fun c56 => ?_) (fun c56 => ?_)
    · refine g_iconst (v := 0) 64 rfl dX7_takeTurn_63 (by decide) ?_
      refine g_istore_n2 65 rfl dX7_takeTurn_64 (by decide) rfl ?_
      refine g_goto 81 (by decide) dX7_takeTurn_65 ?_
      rw [show turnC (h.1 3 3) (h.1 7) (h.1 (tr i)) 6 = _ from by first | exact decide_eq_false (fun q => q c56) | exact decide_eq_true (show h.1 (tr i) 1 ≠ 0 by omega)]
      exact J _ (fun _ q => by first | exact c56 | exact absurd q (by decide))
    · refine g_iconst (v := 1) 60 rfl dX7_takeTurn_59 (by decide) ?_
      refine g_goto 64 (by decide) dX7_takeTurn_60 ?_
      refine g_istore_n2 65 rfl dX7_takeTurn_64 (by decide) rfl ?_
      refine g_goto 81 (by decide) dX7_takeTurn_65 ?_
      rw [show turnC (h.1 3 3) (h.1 7) (h.1 (tr i)) 6 = _ from by first | exact decide_eq_false (fun q => q c56) | exact decide_eq_true (show h.1 (tr i) 1 ≠ 0 by omega)]
      exact J _ (fun _ q => by first | exact c56 | exact absurd q (by decide))
  · refine g_iload_n1 1 rfl dX7_takeTurn_0 ?_
    refine g_lsw (off := 67) 68 dX7_takeTurn_1 (by decide) (by decide +kernel) (by decide) ?_
    refine g_iconst (v := 1) 69 rfl dX7_takeTurn_68 (by decide) ?_
    refine g_istore_n2 70 rfl dX7_takeTurn_69 (by decide) rfl ?_
    refine g_goto 81 (by decide) dX7_takeTurn_70 ?_
    exact J true (fun q => absurd q (by decide))
  · refine g_iload_n1 1 rfl dX7_takeTurn_0 ?_
    refine g_lsw (off := 72) 73 dX7_takeTurn_1 (by decide) (by decide +kernel) (by decide) ?_
    refine g_aload_n0 74 rfl dX7_takeTurn_73 ?_
    refine g_iload_n1 75 rfl dX7_takeTurn_74 ?_
    refine g_iconst (v := 1) 76 rfl dX7_takeTurn_75 (by decide) ?_
    refine gn_isub 77 rfl dX7_takeTurn_76 (by omega) ?_
    refine g_cv1i 80 rfl cw_RX7_75 dX7_takeTurn_77 (c_X7_canBeSaid hi hx (by omega)) (by decide) (ob_tb V (by omega)) (Nat.le_of_ble_eq_true rfl) ?_
    refine g_istore_n2 81 rfl dX7_takeTurn_80 (by decide) rfl ?_
    exact J _ (fun q => absurd q (by decide))
  · refine g_iload_n1 1 rfl dX7_takeTurn_0 ?_
    refine g_lsw (off := 72) 73 dX7_takeTurn_1 (by decide) (by decide +kernel) (by decide) ?_
    refine g_aload_n0 74 rfl dX7_takeTurn_73 ?_
    refine g_iload_n1 75 rfl dX7_takeTurn_74 ?_
    refine g_iconst (v := 1) 76 rfl dX7_takeTurn_75 (by decide) ?_
    refine gn_isub 77 rfl dX7_takeTurn_76 (by omega) ?_
    refine g_cv1i 80 rfl cw_RX7_75 dX7_takeTurn_77 (c_X7_canBeSaid hi hx (by omega)) (by decide) (ob_tb V (by omega)) (Nat.le_of_ble_eq_true rfl) ?_
    refine g_istore_n2 81 rfl dX7_takeTurn_80 (by decide) rfl ?_
    exact J _ (fun q => absurd q (by decide))
  · refine g_iload_n1 1 rfl dX7_takeTurn_0 ?_
    refine g_lsw (off := 72) 73 dX7_takeTurn_1 (by decide) (by decide +kernel) (by decide) ?_
    refine g_aload_n0 74 rfl dX7_takeTurn_73 ?_
    refine g_iload_n1 75 rfl dX7_takeTurn_74 ?_
    refine g_iconst (v := 1) 76 rfl dX7_takeTurn_75 (by decide) ?_
    refine gn_isub 77 rfl dX7_takeTurn_76 (by omega) ?_
    refine g_cv1i 80 rfl cw_RX7_75 dX7_takeTurn_77 (c_X7_canBeSaid hi hx (by omega)) (by decide) (ob_tb V (by omega)) (Nat.le_of_ble_eq_true rfl) ?_
    refine g_istore_n2 81 rfl dX7_takeTurn_80 (by decide) rfl ?_
    exact J _ (fun q => absurd q (by decide))
  · refine g_iload_n1 1 rfl dX7_takeTurn_0 ?_
    refine g_lsw (off := 72) 73 dX7_takeTurn_1 (by decide) (by decide +kernel) (by decide) ?_
    refine g_aload_n0 74 rfl dX7_takeTurn_73 ?_
    refine g_iload_n1 75 rfl dX7_takeTurn_74 ?_
    refine g_iconst (v := 1) 76 rfl dX7_takeTurn_75 (by decide) ?_
    refine gn_isub 77 rfl dX7_takeTurn_76 (by omega) ?_
    refine g_cv1i 80 rfl cw_RX7_75 dX7_takeTurn_77 (c_X7_canBeSaid hi hx (by omega)) (by decide) (ob_tb V (by omega)) (Nat.le_of_ble_eq_true rfl) ?_
    refine g_istore_n2 81 rfl dX7_takeTurn_80 (by decide) rfl ?_
    exact J _ (fun q => absurd q (by decide))
  · refine g_iload_n1 1 rfl dX7_takeTurn_0 ?_
    refine g_lsw (off := 72) 73 dX7_takeTurn_1 (by decide) (by decide +kernel) (by decide) ?_
    refine g_aload_n0 74 rfl dX7_takeTurn_73 ?_
    refine g_iload_n1 75 rfl dX7_takeTurn_74 ?_
    refine g_iconst (v := 1) 76 rfl dX7_takeTurn_75 (by decide) ?_
    refine gn_isub 77 rfl dX7_takeTurn_76 (by omega) ?_
    refine g_cv1i 80 rfl cw_RX7_75 dX7_takeTurn_77 (c_X7_canBeSaid hi hx (by omega)) (by decide) (ob_tb V (by omega)) (Nat.le_of_ble_eq_true rfl) ?_
    refine g_istore_n2 81 rfl dX7_takeTurn_80 (by decide) rfl ?_
    exact J _ (fun q => absurd q (by decide))
end X7
end
