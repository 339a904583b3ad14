section
-- ===== PART A: goes FIRST, ahead of the names: the tables' words, and 'selects' of the private methods out of them =====
/-- a private method of a class that the tables say can be made, by its rows of tables_1 -/
def lw_okq (q : MethodName × Nat) : Prop := (q.1.cls ≠ "java/lang/invoke/MethodHandle" ∧ q.1.cls ≠ "java/lang/invoke/VarHandle") ∧ Cond.instantiable q.1.cls q.2 ∈ tables_1 ∧ Cond.privateMethod q.1 ∈ tables_1 ∧ Cond.instanceMethod q.1 ∈ tables_1
theorem lw_p0 : lw_okq (⟨"CorpseTales", "sheetAt", "(I)LCorpseTales$Sheet;"⟩, 12) := ⟨⟨by decide +kernel, by decide +kernel⟩, List.mem_of_getElem? (i := 18) (by decide +kernel), List.mem_of_getElem? (i := 230) (by decide +kernel), List.mem_of_getElem? (i := 231) (by decide +kernel)⟩
theorem lw_p1 : lw_okq (⟨"CorpseTales", "failing", "(I)I"⟩, 12) := ⟨⟨by decide +kernel, by decide +kernel⟩, List.mem_of_getElem? (i := 18) (by decide +kernel), List.mem_of_getElem? (i := 253) (by decide +kernel), List.mem_of_getElem? (i := 254) (by decide +kernel)⟩
theorem lw_p2 : lw_okq (⟨"CorpseTales", "takeOrder", "(IIIII)I"⟩, 12) := ⟨⟨by decide +kernel, by decide +kernel⟩, List.mem_of_getElem? (i := 18) (by decide +kernel), List.mem_of_getElem? (i := 397) (by decide +kernel), List.mem_of_getElem? (i := 398) (by decide +kernel)⟩
theorem lw_p3 : lw_okq (⟨"CorpseTales", "passNight", "(I)V"⟩, 12) := ⟨⟨by decide +kernel, by decide +kernel⟩, List.mem_of_getElem? (i := 18) (by decide +kernel), List.mem_of_getElem? (i := 402) (by decide +kernel), List.mem_of_getElem? (i := 403) (by decide +kernel)⟩
theorem lw_p4 : lw_okq (⟨"CorpseTales$Night", "walk", "(I)V"⟩, 8) := ⟨⟨by decide +kernel, by decide +kernel⟩, List.mem_of_getElem? (i := 86) (by decide +kernel), List.mem_of_getElem? (i := 414) (by decide +kernel), List.mem_of_getElem? (i := 415) (by decide +kernel)⟩
theorem lw_p5 : lw_okq (⟨"CorpseTales$Never", "goOn", "(LCorpseTales$Forest;II)V"⟩, 5) := ⟨⟨by decide +kernel, by decide +kernel⟩, List.mem_of_getElem? (i := 127) (by decide +kernel), List.mem_of_getElem? (i := 443) (by decide +kernel), List.mem_of_getElem? (i := 444) (by decide +kernel)⟩
theorem lw_p6 : lw_okq (⟨"CorpseTales$Game", "leastFar", "(LCorpseTales$Forest;III)I"⟩, 2) := ⟨⟨by decide +kernel, by decide +kernel⟩, List.mem_of_getElem? (i := 158) (by decide +kernel), List.mem_of_getElem? (i := 474) (by decide +kernel), List.mem_of_getElem? (i := 475) (by decide +kernel)⟩
theorem lw_p7 : lw_okq (⟨"CorpseTales$Game", "mostFar", "(LCorpseTales$Forest;IIII)I"⟩, 2) := ⟨⟨by decide +kernel, by decide +kernel⟩, List.mem_of_getElem? (i := 158) (by decide +kernel), List.mem_of_getElem? (i := 479) (by decide +kernel), List.mem_of_getElem? (i := 480) (by decide +kernel)⟩
theorem lw_p8 : lw_okq (⟨"CorpseTales", "fitsReadings", "(I)Z"⟩, 12) := ⟨⟨by decide +kernel, by decide +kernel⟩, List.mem_of_getElem? (i := 18) (by decide +kernel), List.mem_of_getElem? (i := 517) (by decide +kernel), List.mem_of_getElem? (i := 518) (by decide +kernel)⟩
theorem lw_p9 : lw_okq (⟨"CorpseTalesModel", "refused", "(I)I"⟩, 43) := ⟨⟨by decide +kernel, by decide +kernel⟩, List.mem_of_getElem? (i := 627) (by decide +kernel), List.mem_of_getElem? (i := 774) (by decide +kernel), List.mem_of_getElem? (i := 775) (by decide +kernel)⟩
theorem lw_p10 : lw_okq (⟨"CorpseTalesModel", "cellsBarred", "(IIIJ)I"⟩, 43) := ⟨⟨by decide +kernel, by decide +kernel⟩, List.mem_of_getElem? (i := 627) (by decide +kernel), List.mem_of_getElem? (i := 779) (by decide +kernel), List.mem_of_getElem? (i := 780) (by decide +kernel)⟩
theorem lw_p11 : lw_okq (⟨"CorpseTalesModel", "failed", "(I)I"⟩, 43) := ⟨⟨by decide +kernel, by decide +kernel⟩, List.mem_of_getElem? (i := 627) (by decide +kernel), List.mem_of_getElem? (i := 783) (by decide +kernel), List.mem_of_getElem? (i := 784) (by decide +kernel)⟩
theorem lw_p12 : lw_okq (⟨"CorpseTalesModel", "readsForest", "(II)Z"⟩, 43) := ⟨⟨by decide +kernel, by decide +kernel⟩, List.mem_of_getElem? (i := 627) (by decide +kernel), List.mem_of_getElem? (i := 790) (by decide +kernel), List.mem_of_getElem? (i := 791) (by decide +kernel)⟩
theorem lw_p13 : lw_okq (⟨"CorpseTalesModel", "codeAt", "(II)I"⟩, 43) := ⟨⟨by decide +kernel, by decide +kernel⟩, List.mem_of_getElem? (i := 627) (by decide +kernel), List.mem_of_getElem? (i := 794) (by decide +kernel), List.mem_of_getElem? (i := 795) (by decide +kernel)⟩
theorem lw_p14 : lw_okq (⟨"CorpseTalesModel", "figure", "(IIII)I"⟩, 43) := ⟨⟨by decide +kernel, by decide +kernel⟩, List.mem_of_getElem? (i := 627) (by decide +kernel), List.mem_of_getElem? (i := 798) (by decide +kernel), List.mem_of_getElem? (i := 799) (by decide +kernel)⟩
theorem lw_p15 : lw_okq (⟨"CorpseTalesModel", "readsTale", "(II)Z"⟩, 43) := ⟨⟨by decide +kernel, by decide +kernel⟩, List.mem_of_getElem? (i := 627) (by decide +kernel), List.mem_of_getElem? (i := 802) (by decide +kernel), List.mem_of_getElem? (i := 803) (by decide +kernel)⟩
def lw_privs_1 : List (MethodName × Nat) := [(⟨"CorpseTales", "sheetAt", "(I)LCorpseTales$Sheet;"⟩, 12), (⟨"CorpseTales", "failing", "(I)I"⟩, 12), (⟨"CorpseTales", "takeOrder", "(IIIII)I"⟩, 12), (⟨"CorpseTales", "passNight", "(I)V"⟩, 12), (⟨"CorpseTales$Night", "walk", "(I)V"⟩, 8), (⟨"CorpseTales$Never", "goOn", "(LCorpseTales$Forest;II)V"⟩, 5), (⟨"CorpseTales$Game", "leastFar", "(LCorpseTales$Forest;III)I"⟩, 2), (⟨"CorpseTales$Game", "mostFar", "(LCorpseTales$Forest;IIII)I"⟩, 2), (⟨"CorpseTales", "fitsReadings", "(I)Z"⟩, 12), (⟨"CorpseTalesModel", "refused", "(I)I"⟩, 43), (⟨"CorpseTalesModel", "cellsBarred", "(IIIJ)I"⟩, 43), (⟨"CorpseTalesModel", "failed", "(I)I"⟩, 43), (⟨"CorpseTalesModel", "readsForest", "(II)Z"⟩, 43), (⟨"CorpseTalesModel", "codeAt", "(II)I"⟩, 43), (⟨"CorpseTalesModel", "figure", "(IIII)I"⟩, 43), (⟨"CorpseTalesModel", "readsTale", "(II)Z"⟩, 43)]
theorem lw_r1 : ∀ q ∈ lw_privs_1, lw_okq q := List.forall_mem_cons.mpr ⟨lw_p0, List.forall_mem_cons.mpr ⟨lw_p1, List.forall_mem_cons.mpr ⟨lw_p2, List.forall_mem_cons.mpr ⟨lw_p3, List.forall_mem_cons.mpr ⟨lw_p4, List.forall_mem_cons.mpr ⟨lw_p5, List.forall_mem_cons.mpr ⟨lw_p6, List.forall_mem_cons.mpr ⟨lw_p7, List.forall_mem_cons.mpr ⟨lw_p8, List.forall_mem_cons.mpr ⟨lw_p9, List.forall_mem_cons.mpr ⟨lw_p10, List.forall_mem_cons.mpr ⟨lw_p11, List.forall_mem_cons.mpr ⟨lw_p12, List.forall_mem_cons.mpr ⟨lw_p13, List.forall_mem_cons.mpr ⟨lw_p14, List.forall_mem_cons.mpr ⟨lw_p15, fun _ h => absurd h List.not_mem_nil⟩⟩⟩⟩⟩⟩⟩⟩⟩⟩⟩⟩⟩⟩⟩⟩
theorem lw_p16 : lw_okq (⟨"CorpseTalesModel", "noTale", "(I)Z"⟩, 43) := ⟨⟨by decide +kernel, by decide +kernel⟩, List.mem_of_getElem? (i := 627) (by decide +kernel), List.mem_of_getElem? (i := 810) (by decide +kernel), List.mem_of_getElem? (i := 811) (by decide +kernel)⟩
theorem lw_p17 : lw_okq (⟨"CorpseTalesModel", "hasAnswer", "(III)Z"⟩, 43) := ⟨⟨by decide +kernel, by decide +kernel⟩, List.mem_of_getElem? (i := 627) (by decide +kernel), List.mem_of_getElem? (i := 814) (by decide +kernel), List.mem_of_getElem? (i := 815) (by decide +kernel)⟩
theorem lw_p18 : lw_okq (⟨"CorpseTalesModel", "orderBarred", "(IIII)I"⟩, 43) := ⟨⟨by decide +kernel, by decide +kernel⟩, List.mem_of_getElem? (i := 627) (by decide +kernel), List.mem_of_getElem? (i := 834) (by decide +kernel), List.mem_of_getElem? (i := 835) (by decide +kernel)⟩
theorem lw_p19 : lw_okq (⟨"CorpseTalesModel", "goOrder", "(III)V"⟩, 43) := ⟨⟨by decide +kernel, by decide +kernel⟩, List.mem_of_getElem? (i := 627) (by decide +kernel), List.mem_of_getElem? (i := 838) (by decide +kernel), List.mem_of_getElem? (i := 839) (by decide +kernel)⟩
theorem lw_p20 : lw_okq (⟨"CorpseTalesModel", "beginNight", "(I)V"⟩, 43) := ⟨⟨by decide +kernel, by decide +kernel⟩, List.mem_of_getElem? (i := 627) (by decide +kernel), List.mem_of_getElem? (i := 842) (by decide +kernel), List.mem_of_getElem? (i := 843) (by decide +kernel)⟩
theorem lw_p21 : lw_okq (⟨"CorpseTalesModel", "goHeard", "(I)V"⟩, 43) := ⟨⟨by decide +kernel, by decide +kernel⟩, List.mem_of_getElem? (i := 627) (by decide +kernel), List.mem_of_getElem? (i := 846) (by decide +kernel), List.mem_of_getElem? (i := 847) (by decide +kernel)⟩
theorem lw_p22 : lw_okq (⟨"CorpseTalesModel", "goTale", "(I)Z"⟩, 43) := ⟨⟨by decide +kernel, by decide +kernel⟩, List.mem_of_getElem? (i := 627) (by decide +kernel), List.mem_of_getElem? (i := 850) (by decide +kernel), List.mem_of_getElem? (i := 851) (by decide +kernel)⟩
theorem lw_p23 : lw_okq (⟨"CorpseTalesModel", "goSteps", "(I)V"⟩, 43) := ⟨⟨by decide +kernel, by decide +kernel⟩, List.mem_of_getElem? (i := 627) (by decide +kernel), List.mem_of_getElem? (i := 854) (by decide +kernel), List.mem_of_getElem? (i := 855) (by decide +kernel)⟩
theorem lw_p24 : lw_okq (⟨"CorpseTalesModel", "seekNever", "(I)V"⟩, 43) := ⟨⟨by decide +kernel, by decide +kernel⟩, List.mem_of_getElem? (i := 627) (by decide +kernel), List.mem_of_getElem? (i := 869) (by decide +kernel), List.mem_of_getElem? (i := 870) (by decide +kernel)⟩
theorem lw_p25 : lw_okq (⟨"CorpseTalesModel", "isUsed", "(II)Z"⟩, 43) := ⟨⟨by decide +kernel, by decide +kernel⟩, List.mem_of_getElem? (i := 627) (by decide +kernel), List.mem_of_getElem? (i := 873) (by decide +kernel), List.mem_of_getElem? (i := 874) (by decide +kernel)⟩
theorem lw_p26 : lw_okq (⟨"CorpseTalesModel", "lookAtRow", "(I)V"⟩, 43) := ⟨⟨by decide +kernel, by decide +kernel⟩, List.mem_of_getElem? (i := 627) (by decide +kernel), List.mem_of_getElem? (i := 877) (by decide +kernel), List.mem_of_getElem? (i := 878) (by decide +kernel)⟩
theorem lw_p27 : lw_okq (⟨"CorpseTalesModel", "play", "(I)I"⟩, 43) := ⟨⟨by decide +kernel, by decide +kernel⟩, List.mem_of_getElem? (i := 627) (by decide +kernel), List.mem_of_getElem? (i := 892) (by decide +kernel), List.mem_of_getElem? (i := 893) (by decide +kernel)⟩
theorem lw_p28 : lw_okq (⟨"CorpseTalesModel", "nextWay", "(I)I"⟩, 43) := ⟨⟨by decide +kernel, by decide +kernel⟩, List.mem_of_getElem? (i := 627) (by decide +kernel), List.mem_of_getElem? (i := 896) (by decide +kernel), List.mem_of_getElem? (i := 897) (by decide +kernel)⟩
theorem lw_p29 : lw_okq (⟨"CorpseTalesModel", "goWay", "(I)V"⟩, 43) := ⟨⟨by decide +kernel, by decide +kernel⟩, List.mem_of_getElem? (i := 627) (by decide +kernel), List.mem_of_getElem? (i := 900) (by decide +kernel), List.mem_of_getElem? (i := 901) (by decide +kernel)⟩
theorem lw_p30 : lw_okq (⟨"CorpseTalesModel", "areSo", "(I)Z"⟩, 43) := ⟨⟨by decide +kernel, by decide +kernel⟩, List.mem_of_getElem? (i := 627) (by decide +kernel), List.mem_of_getElem? (i := 930) (by decide +kernel), List.mem_of_getElem? (i := 931) (by decide +kernel)⟩
theorem lw_p31 : lw_okq (⟨"CorpseTalesModel", "noCell", "(II)I"⟩, 43) := ⟨⟨by decide +kernel, by decide +kernel⟩, List.mem_of_getElem? (i := 627) (by decide +kernel), List.mem_of_getElem? (i := 946) (by decide +kernel), List.mem_of_getElem? (i := 947) (by decide +kernel)⟩
def lw_privs_2 : List (MethodName × Nat) := [(⟨"CorpseTalesModel", "noTale", "(I)Z"⟩, 43), (⟨"CorpseTalesModel", "hasAnswer", "(III)Z"⟩, 43), (⟨"CorpseTalesModel", "orderBarred", "(IIII)I"⟩, 43), (⟨"CorpseTalesModel", "goOrder", "(III)V"⟩, 43), (⟨"CorpseTalesModel", "beginNight", "(I)V"⟩, 43), (⟨"CorpseTalesModel", "goHeard", "(I)V"⟩, 43), (⟨"CorpseTalesModel", "goTale", "(I)Z"⟩, 43), (⟨"CorpseTalesModel", "goSteps", "(I)V"⟩, 43), (⟨"CorpseTalesModel", "seekNever", "(I)V"⟩, 43), (⟨"CorpseTalesModel", "isUsed", "(II)Z"⟩, 43), (⟨"CorpseTalesModel", "lookAtRow", "(I)V"⟩, 43), (⟨"CorpseTalesModel", "play", "(I)I"⟩, 43), (⟨"CorpseTalesModel", "nextWay", "(I)I"⟩, 43), (⟨"CorpseTalesModel", "goWay", "(I)V"⟩, 43), (⟨"CorpseTalesModel", "areSo", "(I)Z"⟩, 43), (⟨"CorpseTalesModel", "noCell", "(II)I"⟩, 43)]
theorem lw_r2 : ∀ q ∈ lw_privs_2, lw_okq q := List.forall_mem_cons.mpr ⟨lw_p16, List.forall_mem_cons.mpr ⟨lw_p17, List.forall_mem_cons.mpr ⟨lw_p18, List.forall_mem_cons.mpr ⟨lw_p19, List.forall_mem_cons.mpr ⟨lw_p20, List.forall_mem_cons.mpr ⟨lw_p21, List.forall_mem_cons.mpr ⟨lw_p22, List.forall_mem_cons.mpr ⟨lw_p23, List.forall_mem_cons.mpr ⟨lw_p24, List.forall_mem_cons.mpr ⟨lw_p25, List.forall_mem_cons.mpr ⟨lw_p26, List.forall_mem_cons.mpr ⟨lw_p27, List.forall_mem_cons.mpr ⟨lw_p28, List.forall_mem_cons.mpr ⟨lw_p29, List.forall_mem_cons.mpr ⟨lw_p30, List.forall_mem_cons.mpr ⟨lw_p31, fun _ h => absurd h List.not_mem_nil⟩⟩⟩⟩⟩⟩⟩⟩⟩⟩⟩⟩⟩⟩⟩⟩
theorem lw_p32 : lw_okq (⟨"CorpseTalesModel", "failedLong", "(I)J"⟩, 43) := ⟨⟨by decide +kernel, by decide +kernel⟩, List.mem_of_getElem? (i := 627) (by decide +kernel), List.mem_of_getElem? (i := 954) (by decide +kernel), List.mem_of_getElem? (i := 955) (by decide +kernel)⟩
theorem lw_p33 : lw_okq (⟨"CorpseTalesModel", "traced", "(I)V"⟩, 43) := ⟨⟨by decide +kernel, by decide +kernel⟩, List.mem_of_getElem? (i := 627) (by decide +kernel), List.mem_of_getElem? (i := 966) (by decide +kernel), List.mem_of_getElem? (i := 967) (by decide +kernel)⟩
def lw_privs_3 : List (MethodName × Nat) := [(⟨"CorpseTalesModel", "failedLong", "(I)J"⟩, 43), (⟨"CorpseTalesModel", "traced", "(I)V"⟩, 43)]
theorem lw_r3 : ∀ q ∈ lw_privs_3, lw_okq q := List.forall_mem_cons.mpr ⟨lw_p32, List.forall_mem_cons.mpr ⟨lw_p33, fun _ h => absurd h List.not_mem_nil⟩⟩
def lw_privs : List (MethodName × Nat) := lw_privs_1 ++ (lw_privs_2 ++ (lw_privs_3))
def lw_tbl : List Cond := k2_sels lw_privs ++ tables_1
theorem lw_privs_ok : ∀ q ∈ lw_privs, lw_okq q := by
  show ∀ q ∈ lw_privs_1 ++ (lw_privs_2 ++ (lw_privs_3)), lw_okq q
  exact List.forall_mem_append.mpr ⟨lw_r1, List.forall_mem_append.mpr ⟨lw_r2, lw_r3⟩⟩
def RX0 : String := "CorpseTales$DoubleTale"
def TX0 : u_T := fun k => match k with
  | 0 => ("CorpseTales$Tale", "number", "I", true)
  | 1 => ("CorpseTales$Tale", "firstNeed", "I", true)
  | 2 => ("CorpseTales$Tale", "secondNeed", "I", true)
  | 3 => ("CorpseTales$Tale", "teaches", "I", true)
  | _ => ("CorpseTales$Tale", "length", "I", true)
def tyX0 : Nat → FieldType := fun k => match k with
  | 0 => .int
  | 1 => .int
  | 2 => .int
  | 3 => .int
  | _ => .int
abbrev wsX00 : List Cond := u_ws RX0 TX0 5
theorem nmX0 : ∀ a, a < 5 → ∀ b, b < 5 → a ≠ b → (TX0 a).2.1 ≠ (TX0 b).2.1 := by decide +kernel
theorem tyX0_ok : ∀ k, k < 5 → parseFieldDescriptor (TX0 k).2.2.1 = some (tyX0 k) := by decide +kernel
abbrev cX0_init : ByteArray := prog_2_method_1_code
def yX0_init : MethodName := ⟨RX0, "<init>", "(IIIII)V"⟩
abbrev cX0_kind : ByteArray := prog_2_method_2_code
def yX0_kind : MethodName := ⟨RX0, "kind", "()I"⟩
abbrev cX0_isAnswered : ByteArray := prog_2_method_3_code
def yX0_isAnswered : MethodName := ⟨RX0, "isAnswered", "(II)Z"⟩
abbrev cX0_oddsUnanswered : ByteArray := prog_2_method_4_code
def yX0_oddsUnanswered : MethodName := ⟨RX0, "oddsUnanswered", "(I)I"⟩
abbrev cX0_telling : ByteArray := prog_2_method_5_code
def yX0_telling : MethodName := ⟨RX0, "telling", "(LCorpseTales$Trace;)I"⟩
def RX1 : String := "CorpseTales$Forest"
def TX1 : u_T := fun k => match k with
  | 0 => ("CorpseTales$Forest", "steps", "I", false)
  | 1 => ("CorpseTales$Forest", "count", "I", false)
  | _ => ("CorpseTales$Forest", "tales", "[LCorpseTales$Tale;", true)
def tyX1 : Nat → FieldType := fun k => match k with
  | 0 => .int
  | 1 => .int
  | _ => .array (.object "CorpseTales$Tale")
abbrev wsX10 : List Cond := u_ws RX1 TX1 3
theorem nmX1 : ∀ a, a < 3 → ∀ b, b < 3 → a ≠ b → (TX1 a).2.1 ≠ (TX1 b).2.1 := by decide +kernel
theorem tyX1_ok : ∀ k, k < 3 → parseFieldDescriptor (TX1 k).2.2.1 = some (tyX1 k) := by decide +kernel
abbrev cX1_init : ByteArray := prog_3_method_1_code
def yX1_init : MethodName := ⟨RX1, "<init>", "()V"⟩
abbrev cX1_taleAt : ByteArray := prog_3_method_2_code
def yX1_taleAt : MethodName := ⟨RX1, "taleAt", "(I)LCorpseTales$Tale;"⟩
abbrev cX1_firstFault : ByteArray := prog_3_method_3_code
def yX1_firstFault : MethodName := ⟨RX1, "firstFault", "(LCorpseTales$Sheet;II)I"⟩
abbrev cX1_goesOn : ByteArray := prog_3_method_4_code
def yX1_goesOn : MethodName := ⟨RX1, "goesOn", "(II)Z"⟩
abbrev cX1_grow : ByteArray := prog_3_method_5_code
def yX1_grow : MethodName := ⟨RX1, "grow", "(LCorpseTales$Sheet;II)V"⟩
abbrev cX1_newTale : ByteArray := prog_3_method_6_code
def yX1_newTale : MethodName := ⟨RX1, "newTale", "(ILCorpseTales$Sheet;I)LCorpseTales$Tale;"⟩
def RX2 : String := "CorpseTales$Game"
def TX2 : u_T := fun k => match k with
  | 0 => ("CorpseTales$Game", "nights", "[LCorpseTales$Night;", true)
  | _ => ("CorpseTales$Game", "length", "I", false)
def tyX2 : Nat → FieldType := fun k => match k with
  | 0 => .array (.object "CorpseTales$Night")
  | _ => .int
abbrev wsX20 : List Cond := u_ws RX2 TX2 2
theorem nmX2 : ∀ a, a < 2 → ∀ b, b < 2 → a ≠ b → (TX2 a).2.1 ≠ (TX2 b).2.1 := by decide +kernel
theorem tyX2_ok : ∀ k, k < 2 → parseFieldDescriptor (TX2 k).2.2.1 = some (tyX2 k) := by decide +kernel
abbrev cX2_init : ByteArray := prog_4_method_1_code
def yX2_init : MethodName := ⟨RX2, "<init>", "()V"⟩
abbrev cX2_farByBestPlay : ByteArray := prog_4_method_2_code
def yX2_farByBestPlay : MethodName := ⟨RX2, "farByBestPlay", "(LCorpseTales$Forest;LCorpseTales$Night;I)I"⟩
abbrev cX2_leastFar : ByteArray := prog_4_method_3_code
def yX2_leastFar : MethodName := ⟨RX2, "leastFar", "(LCorpseTales$Forest;III)I"⟩
abbrev cX2_mostFar : ByteArray := prog_4_method_4_code
def yX2_mostFar : MethodName := ⟨RX2, "mostFar", "(LCorpseTales$Forest;IIII)I"⟩
def RX3 : String := "CorpseTales$Never"
def TX3 : u_T := fun k => match k with
  | 0 => ("CorpseTales$Never", "mostFlights", "I", false)
  | 1 => ("CorpseTales$Never", "bestRow", "[I", true)
  | 2 => ("CorpseTales$Never", "row", "[I", true)
  | 3 => ("CorpseTales$Never", "nights", "[LCorpseTales$Night;", true)
  | _ => ("CorpseTales$Never", "length", "I", false)
def tyX3 : Nat → FieldType := fun k => match k with
  | 0 => .int
  | 1 => .array .int
  | 2 => .array .int
  | 3 => .array (.object "CorpseTales$Night")
  | _ => .int
abbrev wsX30 : List Cond := u_ws RX3 TX3 5
theorem nmX3 : ∀ a, a < 5 → ∀ b, b < 5 → a ≠ b → (TX3 a).2.1 ≠ (TX3 b).2.1 := by decide +kernel
theorem tyX3_ok : ∀ k, k < 5 → parseFieldDescriptor (TX3 k).2.2.1 = some (tyX3 k) := by decide +kernel
abbrev cX3_init : ByteArray := prog_5_method_1_code
def yX3_init : MethodName := ⟨RX3, "<init>", "()V"⟩
abbrev cX3_seek : ByteArray := prog_5_method_2_code
def yX3_seek : MethodName := ⟨RX3, "seek", "(LCorpseTales$Forest;LCorpseTales$Night;I)V"⟩
abbrev cX3_goOn : ByteArray := prog_5_method_3_code
def yX3_goOn : MethodName := ⟨RX3, "goOn", "(LCorpseTales$Forest;II)V"⟩
def RX4 : String := "CorpseTales$Night"
def TX4 : u_T := fun k => match k with
  | 0 => ("CorpseTales$Night", "step", "I", false)
  | 1 => ("CorpseTales$Night", "flights", "I", false)
  | 2 => ("CorpseTales$Night", "heardOut", "I", false)
  | 3 => ("CorpseTales$Night", "known", "I", false)
  | 4 => ("CorpseTales$Night", "hasCome", "Z", false)
  | 5 => ("CorpseTales$Night", "steps", "I", false)
  | 6 => ("CorpseTales$Night", "believed", "I", false)
  | _ => ("CorpseTales$Night", "heardTales", "I", false)
def tyX4 : Nat → FieldType := fun k => match k with
  | 0 => .int
  | 1 => .int
  | 2 => .int
  | 3 => .int
  | 4 => .boolean
  | 5 => .int
  | 6 => .int
  | _ => .int
abbrev wsX40 : List Cond := u_ws RX4 TX4 8
theorem nmX4 : ∀ a, a < 8 → ∀ b, b < 8 → a ≠ b → (TX4 a).2.1 ≠ (TX4 b).2.1 := by decide +kernel
theorem tyX4_ok : ∀ k, k < 8 → parseFieldDescriptor (TX4 k).2.2.1 = some (tyX4 k) := by decide +kernel
abbrev cX4_init : ByteArray := prog_6_method_1_code
def yX4_init : MethodName := ⟨RX4, "<init>", "()V"⟩
abbrev cX4_begin : ByteArray := prog_6_method_2_code
def yX4_begin : MethodName := ⟨RX4, "begin", "(III)V"⟩
abbrev cX4_takeUp : ByteArray := prog_6_method_3_code
def yX4_takeUp : MethodName := ⟨RX4, "takeUp", "(LCorpseTales$Night;)V"⟩
abbrev cX4_hear : ByteArray := prog_6_method_4_code
def yX4_hear : MethodName := ⟨RX4, "hear", "(LCorpseTales$Tale;Z)V"⟩
abbrev cX4_learn : ByteArray := prog_6_method_5_code
def yX4_learn : MethodName := ⟨RX4, "learn", "(LCorpseTales$Tale;)V"⟩
abbrev cX4_walk : ByteArray := prog_6_method_6_code
def yX4_walk : MethodName := ⟨RX4, "walk", "(I)V"⟩
def RX5 : String := "CorpseTales$OldTale"
def TX5 : u_T := fun k => match k with
  | 0 => ("CorpseTales$Tale", "number", "I", true)
  | 1 => ("CorpseTales$Tale", "firstNeed", "I", true)
  | 2 => ("CorpseTales$Tale", "secondNeed", "I", true)
  | 3 => ("CorpseTales$Tale", "teaches", "I", true)
  | _ => ("CorpseTales$Tale", "length", "I", true)
def tyX5 : Nat → FieldType := fun k => match k with
  | 0 => .int
  | 1 => .int
  | 2 => .int
  | 3 => .int
  | _ => .int
abbrev wsX50 : List Cond := u_ws RX5 TX5 5
theorem nmX5 : ∀ a, a < 5 → ∀ b, b < 5 → a ≠ b → (TX5 a).2.1 ≠ (TX5 b).2.1 := by decide +kernel
theorem tyX5_ok : ∀ k, k < 5 → parseFieldDescriptor (TX5 k).2.2.1 = some (tyX5 k) := by decide +kernel
abbrev cX5_init : ByteArray := prog_7_method_1_code
def yX5_init : MethodName := ⟨RX5, "<init>", "(IIIII)V"⟩
abbrev cX5_kind : ByteArray := prog_7_method_2_code
def yX5_kind : MethodName := ⟨RX5, "kind", "()I"⟩
abbrev cX5_isAnswered : ByteArray := prog_7_method_3_code
def yX5_isAnswered : MethodName := ⟨RX5, "isAnswered", "(II)Z"⟩
abbrev cX5_telling : ByteArray := prog_7_method_4_code
def yX5_telling : MethodName := ⟨RX5, "telling", "(LCorpseTales$Trace;)I"⟩
abbrev cX5_whispering : ByteArray := prog_7_method_5_code
def yX5_whispering : MethodName := ⟨RX5, "whispering", "(LCorpseTales$Trace;)I"⟩
def RX6 : String := "CorpseTales$Readings"
def TX6 : u_T := fun k => match k with
  | 0 => ("CorpseTales$Readings", "count", "I", false)
  | 1 => ("CorpseTales$Readings", "first", "[I", true)
  | 2 => ("CorpseTales$Readings", "second", "[I", true)
  | _ => ("CorpseTales$Readings", "far", "[I", true)
def tyX6 : Nat → FieldType := fun k => match k with
  | 0 => .int
  | 1 => .array .int
  | 2 => .array .int
  | _ => .array .int
abbrev wsX60 : List Cond := u_ws RX6 TX6 4
theorem nmX6 : ∀ a, a < 4 → ∀ b, b < 4 → a ≠ b → (TX6 a).2.1 ≠ (TX6 b).2.1 := by decide +kernel
theorem tyX6_ok : ∀ k, k < 4 → parseFieldDescriptor (TX6 k).2.2.1 = some (tyX6 k) := by decide +kernel
abbrev cX6_init : ByteArray := prog_8_method_1_code
def yX6_init : MethodName := ⟨RX6, "<init>", "()V"⟩
abbrev cX6_add : ByteArray := prog_8_method_2_code
def yX6_add : MethodName := ⟨RX6, "add", "(III)I"⟩
def RX7 : String := "CorpseTales$Sheet"
def TX7 : u_T := fun k => match k with
  | 0 => ("CorpseTales$Sheet", "lane", "I", false)
  | 1 => ("CorpseTales$Sheet", "count", "I", false)
  | _ => ("CorpseTales$Sheet", "cells", "[I", true)
def tyX7 : Nat → FieldType := fun k => match k with
  | 0 => .int
  | 1 => .int
  | _ => .array .int
abbrev wsX70 : List Cond := u_ws RX7 TX7 3
theorem nmX7 : ∀ a, a < 3 → ∀ b, b < 3 → a ≠ b → (TX7 a).2.1 ≠ (TX7 b).2.1 := by decide +kernel
theorem tyX7_ok : ∀ k, k < 3 → parseFieldDescriptor (TX7 k).2.2.1 = some (tyX7 k) := by decide +kernel
abbrev cX7_init : ByteArray := prog_9_method_1_code
def yX7_init : MethodName := ⟨RX7, "<init>", "()V"⟩
abbrev cX7_isNothing : ByteArray := prog_9_method_2_code
def yX7_isNothing : MethodName := ⟨RX7, "isNothing", "()Z"⟩
abbrev cX7_clear : ByteArray := prog_9_method_3_code
def yX7_clear : MethodName := ⟨RX7, "clear", "()V"⟩
abbrev cX7_renew : ByteArray := prog_9_method_4_code
def yX7_renew : MethodName := ⟨RX7, "renew", "(II)V"⟩
abbrev cX7_hasCell : ByteArray := prog_9_method_5_code
def yX7_hasCell : MethodName := ⟨RX7, "hasCell", "(I)Z"⟩
abbrev cX7_hasCells : ByteArray := prog_9_method_6_code
def yX7_hasCells : MethodName := ⟨RX7, "hasCells", "(II)Z"⟩
abbrev cX7_faultOfLane : ByteArray := prog_9_method_7_code
def yX7_faultOfLane : MethodName := ⟨RX7, "faultOfLane", "(I)I"⟩
abbrev cX7_faultOfCells : ByteArray := prog_9_method_8_code
def yX7_faultOfCells : MethodName := ⟨RX7, "faultOfCells", "(III)I"⟩
abbrev cX7_read : ByteArray := prog_9_method_9_code
def yX7_read : MethodName := ⟨RX7, "read", "(I)I"⟩
abbrev cX7_write : ByteArray := prog_9_method_10_code
def yX7_write : MethodName := ⟨RX7, "write", "(II)V"⟩
def RX8 : String := "CorpseTales$Tale"
def TX8 : u_T := fun k => match k with
  | 0 => ("CorpseTales$Tale", "number", "I", true)
  | 1 => ("CorpseTales$Tale", "firstNeed", "I", true)
  | 2 => ("CorpseTales$Tale", "secondNeed", "I", true)
  | 3 => ("CorpseTales$Tale", "teaches", "I", true)
  | _ => ("CorpseTales$Tale", "length", "I", true)
def tyX8 : Nat → FieldType := fun k => match k with
  | 0 => .int
  | 1 => .int
  | 2 => .int
  | 3 => .int
  | _ => .int
abbrev wsX80 : List Cond := u_ws RX8 TX8 5
theorem nmX8 : ∀ a, a < 5 → ∀ b, b < 5 → a ≠ b → (TX8 a).2.1 ≠ (TX8 b).2.1 := by decide +kernel
theorem tyX8_ok : ∀ k, k < 5 → parseFieldDescriptor (TX8 k).2.2.1 = some (tyX8 k) := by decide +kernel
abbrev cX8_init : ByteArray := prog_10_method_1_code
def yX8_init : MethodName := ⟨RX8, "<init>", "(IIIII)V"⟩
abbrev cX8_kind : ByteArray := prog_10_method_2_code
def yX8_kind : MethodName := ⟨RX8, "kind", "()I"⟩
abbrev cX8_isAnswered : ByteArray := prog_10_method_3_code
def yX8_isAnswered : MethodName := ⟨RX8, "isAnswered", "(II)Z"⟩
abbrev cX8_hasEitherNeed : ByteArray := prog_10_method_4_code
def yX8_hasEitherNeed : MethodName := ⟨RX8, "hasEitherNeed", "(I)Z"⟩
abbrev cX8_oddsUnanswered : ByteArray := prog_10_method_5_code
def yX8_oddsUnanswered : MethodName := ⟨RX8, "oddsUnanswered", "(I)I"⟩
abbrev cX8_telling : ByteArray := prog_10_method_6_code
def yX8_telling : MethodName := ⟨RX8, "telling", "(LCorpseTales$Trace;)I"⟩
abbrev cX8_plainTelling : ByteArray := prog_10_method_7_code
def yX8_plainTelling : MethodName := ⟨RX8, "plainTelling", "(LCorpseTales$Trace;)I"⟩
abbrev cX8_whispering : ByteArray := prog_10_method_8_code
def yX8_whispering : MethodName := ⟨RX8, "whispering", "(LCorpseTales$Trace;)I"⟩
def RX9 : String := "CorpseTales$Trace"
def TX9 : u_T := fun k => match k with
  | _ => ("CorpseTales$Trace", "value", "I", false)
def tyX9 : Nat → FieldType := fun k => match k with
  | _ => .int
abbrev wsX90 : List Cond := u_ws RX9 TX9 1
theorem nmX9 : ∀ a, a < 1 → ∀ b, b < 1 → a ≠ b → (TX9 a).2.1 ≠ (TX9 b).2.1 := by decide +kernel
theorem tyX9_ok : ∀ k, k < 1 → parseFieldDescriptor (TX9 k).2.2.1 = some (tyX9 k) := by decide +kernel
abbrev cX9_init : ByteArray := prog_11_method_1_code
def yX9_init : MethodName := ⟨RX9, "<init>", "()V"⟩
abbrev cX9_leave : ByteArray := prog_11_method_2_code
def yX9_leave : MethodName := ⟨RX9, "leave", "(I)V"⟩
def RX10 : String := "CorpseTales"
def TX10 : u_T := fun k => match k with
  | 0 => ("CorpseTales", "forest", "LCorpseTales$Forest;", true)
  | 1 => ("CorpseTales", "known", "I", false)
  | 2 => ("CorpseTales", "believed", "I", false)
  | 3 => ("CorpseTales", "readings", "LCorpseTales$Readings;", true)
  | 4 => ("CorpseTales", "sheets", "[LCorpseTales$Sheet;", true)
  | 5 => ("CorpseTales", "traced", "LCorpseTales$Trace;", true)
  | 6 => ("CorpseTales", "latestFault", "I", false)
  | 7 => ("CorpseTales", "order", "[I", true)
  | 8 => ("CorpseTales", "orderLength", "I", false)
  | 9 => ("CorpseTales", "oneNight", "LCorpseTales$Night;", true)
  | 10 => ("CorpseTales", "nevers", "LCorpseTales$Never;", true)
  | _ => ("CorpseTales", "games", "LCorpseTales$Game;", true)
def tyX10 : Nat → FieldType := fun k => match k with
  | 0 => .object "CorpseTales$Forest"
  | 1 => .int
  | 2 => .int
  | 3 => .object "CorpseTales$Readings"
  | 4 => .array (.object "CorpseTales$Sheet")
  | 5 => .object "CorpseTales$Trace"
  | 6 => .int
  | 7 => .array .int
  | 8 => .int
  | 9 => .object "CorpseTales$Night"
  | 10 => .object "CorpseTales$Never"
  | _ => .object "CorpseTales$Game"
abbrev wsX100 : List Cond := u_ws RX10 TX10 12
theorem nmX10 : ∀ a, a < 12 → ∀ b, b < 12 → a ≠ b → (TX10 a).2.1 ≠ (TX10 b).2.1 := by decide +kernel
theorem tyX10_ok : ∀ k, k < 12 → parseFieldDescriptor (TX10 k).2.2.1 = some (tyX10 k) := by decide +kernel
abbrev cX10_init : ByteArray := prog_1_method_1_code
def yX10_init : MethodName := ⟨RX10, "<init>", "()V"⟩
abbrev cX10_forest : ByteArray := prog_1_method_2_code
def yX10_forest : MethodName := ⟨RX10, "forest", "(IIII)I"⟩
abbrev cX10_ofTale : ByteArray := prog_1_method_3_code
def yX10_ofTale : MethodName := ⟨RX10, "ofTale", "(II)I"⟩
abbrev cX10_know : ByteArray := prog_1_method_4_code
def yX10_know : MethodName := ⟨RX10, "know", "(IZ)I"⟩
abbrev cX10_believe : ByteArray := prog_1_method_5_code
def yX10_believe : MethodName := ⟨RX10, "believe", "(IZ)I"⟩
abbrev cX10_night : ByteArray := prog_1_method_6_code
def yX10_night : MethodName := ⟨RX10, "night", "(IIIII)I"⟩
abbrev cX10_comes : ByteArray := prog_1_method_7_code
def yX10_comes : MethodName := ⟨RX10, "comes", "(IIII)I"⟩
abbrev cX10_takeOrder : ByteArray := prog_1_method_8_code
def yX10_takeOrder : MethodName := ⟨RX10, "takeOrder", "(IIIII)I"⟩
abbrev cX10_passNight : ByteArray := prog_1_method_9_code
def yX10_passNight : MethodName := ⟨RX10, "passNight", "(I)V"⟩
abbrev cX10_never : ByteArray := prog_1_method_10_code
def yX10_never : MethodName := ⟨RX10, "never", "(II)I"⟩
abbrev cX10_study : ByteArray := prog_1_method_11_code
def yX10_study : MethodName := ⟨RX10, "study", "(IIII)I"⟩
abbrev cX10_game : ByteArray := prog_1_method_12_code
def yX10_game : MethodName := ⟨RX10, "game", "(I)I"⟩
abbrev cX10_porter : ByteArray := prog_1_method_13_code
def yX10_porter : MethodName := ⟨RX10, "porter", "(III)J"⟩
abbrev cX10_reading : ByteArray := prog_1_method_14_code
def yX10_reading : MethodName := ⟨RX10, "reading", "(III)I"⟩
abbrev cX10_back : ByteArray := prog_1_method_15_code
def yX10_back : MethodName := ⟨RX10, "back", "(I)I"⟩
abbrev cX10_fits : ByteArray := prog_1_method_16_code
def yX10_fits : MethodName := ⟨RX10, "fits", "(I)I"⟩
abbrev cX10_fitsReadings : ByteArray := prog_1_method_17_code
def yX10_fitsReadings : MethodName := ⟨RX10, "fitsReadings", "(I)Z"⟩
abbrev cX10_sheet : ByteArray := prog_1_method_18_code
def yX10_sheet : MethodName := ⟨RX10, "sheet", "(III)I"⟩
abbrev cX10_lose : ByteArray := prog_1_method_19_code
def yX10_lose : MethodName := ⟨RX10, "lose", "(I)I"⟩
abbrev cX10_put : ByteArray := prog_1_method_20_code
def yX10_put : MethodName := ⟨RX10, "put", "(III)I"⟩
abbrev cX10_cell : ByteArray := prog_1_method_21_code
def yX10_cell : MethodName := ⟨RX10, "cell", "(III)J"⟩
abbrev cX10_copy : ByteArray := prog_1_method_22_code
def yX10_copy : MethodName := ⟨RX10, "copy", "(IIIII)I"⟩
abbrev cX10_tell : ByteArray := prog_1_method_23_code
def yX10_tell : MethodName := ⟨RX10, "tell", "(I)I"⟩
abbrev cX10_whisper : ByteArray := prog_1_method_24_code
def yX10_whisper : MethodName := ⟨RX10, "whisper", "(I)I"⟩
abbrev cX10_as : ByteArray := prog_1_method_25_code
def yX10_as : MethodName := ⟨RX10, "as", "(II)I"⟩
abbrev cX10_trace : ByteArray := prog_1_method_26_code
def yX10_trace : MethodName := ⟨RX10, "trace", "()I"⟩
abbrev cX10_fault : ByteArray := prog_1_method_27_code
def yX10_fault : MethodName := ⟨RX10, "fault", "()I"⟩
abbrev cX10_many : ByteArray := prog_1_method_28_code
def yX10_many : MethodName := ⟨RX10, "many", "(I)I"⟩
abbrev cX10_sheetAt : ByteArray := prog_1_method_29_code
def yX10_sheetAt : MethodName := ⟨RX10, "sheetAt", "(I)LCorpseTales$Sheet;"⟩
abbrev cX10_failing : ByteArray := prog_1_method_30_code
def yX10_failing : MethodName := ⟨RX10, "failing", "(I)I"⟩
abbrev cX10_isWithin : ByteArray := prog_1_method_31_code
def yX10_isWithin : MethodName := ⟨RX10, "isWithin", "(III)Z"⟩
abbrev cX10_has : ByteArray := prog_1_method_32_code
def yX10_has : MethodName := ⟨RX10, "has", "(II)Z"⟩
abbrev cX10_isOfKind : ByteArray := prog_1_method_33_code
def yX10_isOfKind : MethodName := ⟨RX10, "isOfKind", "(LCorpseTales$Tale;I)Z"⟩
abbrev cX10_newNights : ByteArray := prog_1_method_34_code
def yX10_newNights : MethodName := ⟨RX10, "newNights", "(I)[LCorpseTales$Night;"⟩
def RX11 : String := "CorpseTalesModel"
def TX11 : u_T := fun k => match k with
  | 0 => ("CorpseTalesModel", "fault", "I", false)
  | 1 => ("CorpseTalesModel", "steps", "I", false)
  | 2 => ("CorpseTalesModel", "tales", "I", false)
  | 3 => ("CorpseTalesModel", "kindOf", "[I", true)
  | 4 => ("CorpseTalesModel", "needsOf", "[I", true)
  | 5 => ("CorpseTalesModel", "needsToo", "[I", true)
  | 6 => ("CorpseTalesModel", "teachesOf", "[I", true)
  | 7 => ("CorpseTalesModel", "longOf", "[I", true)
  | 8 => ("CorpseTalesModel", "known", "I", false)
  | 9 => ("CorpseTalesModel", "believed", "I", false)
  | 10 => ("CorpseTalesModel", "readAt", "I", false)
  | 11 => ("CorpseTalesModel", "readSteps", "I", false)
  | 12 => ("CorpseTalesModel", "readTales", "I", false)
  | 13 => ("CorpseTalesModel", "readKind", "[I", true)
  | 14 => ("CorpseTalesModel", "readNeeds", "[I", true)
  | 15 => ("CorpseTalesModel", "readToo", "[I", true)
  | 16 => ("CorpseTalesModel", "readTeaches", "[I", true)
  | 17 => ("CorpseTalesModel", "readLong", "[I", true)
  | 18 => ("CorpseTalesModel", "step", "I", false)
  | 19 => ("CorpseTalesModel", "knowsNow", "I", false)
  | 20 => ("CorpseTalesModel", "heardSet", "I", false)
  | 21 => ("CorpseTalesModel", "heard", "I", false)
  | 22 => ("CorpseTalesModel", "flights", "I", false)
  | 23 => ("CorpseTalesModel", "hasCome", "Z", false)
  | 24 => ("CorpseTalesModel", "row", "[I", true)
  | 25 => ("CorpseTalesModel", "bestRow", "[I", true)
  | 26 => ("CorpseTalesModel", "bestFlights", "I", false)
  | 27 => ("CorpseTalesModel", "stepAt", "[I", true)
  | 28 => ("CorpseTalesModel", "knowsAt", "[I", true)
  | 29 => ("CorpseTalesModel", "toldAt", "[I", true)
  | 30 => ("CorpseTalesModel", "taleAt", "[I", true)
  | 31 => ("CorpseTalesModel", "harksAt", "[I", true)
  | 32 => ("CorpseTalesModel", "mostAt", "[I", true)
  | 33 => ("CorpseTalesModel", "leastAt", "[I", true)
  | 34 => ("CorpseTalesModel", "readings", "I", false)
  | 35 => ("CorpseTalesModel", "readingOf", "[I", true)
  | 36 => ("CorpseTalesModel", "readingToo", "[I", true)
  | 37 => ("CorpseTalesModel", "readingFar", "[I", true)
  | 38 => ("CorpseTalesModel", "sheetSize", "[I", true)
  | 39 => ("CorpseTalesModel", "sheetLane", "[I", true)
  | 40 => ("CorpseTalesModel", "sheet", "[I", true)
  | 41 => ("CorpseTalesModel", "hands", "[I", true)
  | _ => ("CorpseTalesModel", "traceNow", "I", false)
def tyX11 : Nat → FieldType := fun k => match k with
  | 0 => .int
  | 1 => .int
  | 2 => .int
  | 3 => .array .int
  | 4 => .array .int
  | 5 => .array .int
  | 6 => .array .int
  | 7 => .array .int
  | 8 => .int
  | 9 => .int
  | 10 => .int
  | 11 => .int
  | 12 => .int
  | 13 => .array .int
  | 14 => .array .int
  | 15 => .array .int
  | 16 => .array .int
  | 17 => .array .int
  | 18 => .int
  | 19 => .int
  | 20 => .int
  | 21 => .int
  | 22 => .int
  | 23 => .boolean
  | 24 => .array .int
  | 25 => .array .int
  | 26 => .int
  | 27 => .array .int
  | 28 => .array .int
  | 29 => .array .int
  | 30 => .array .int
  | 31 => .array .int
  | 32 => .array .int
  | 33 => .array .int
  | 34 => .int
  | 35 => .array .int
  | 36 => .array .int
  | 37 => .array .int
  | 38 => .array .int
  | 39 => .array .int
  | 40 => .array .int
  | 41 => .array .int
  | _ => .int
abbrev wsX110 : List Cond := u_ws RX11 TX11 43
theorem nmX11 : ∀ a, a < 43 → ∀ b, b < 43 → a ≠ b → (TX11 a).2.1 ≠ (TX11 b).2.1 := by decide +kernel
theorem tyX11_ok : ∀ k, k < 43 → parseFieldDescriptor (TX11 k).2.2.1 = some (tyX11 k) := by decide +kernel
abbrev cX11_init : ByteArray := prog_13_method_1_code
def yX11_init : MethodName := ⟨RX11, "<init>", "()V"⟩
abbrev cX11_in : ByteArray := prog_13_method_2_code
def yX11_in : MethodName := ⟨RX11, "in", "(JJJ)Z"⟩
abbrev cX11_lost : ByteArray := prog_13_method_3_code
def yX11_lost : MethodName := ⟨RX11, "lost", "()J"⟩
abbrev cX11_isIn : ByteArray := prog_13_method_4_code
def yX11_isIn : MethodName := ⟨RX11, "isIn", "(II)Z"⟩
abbrev cX11_bits : ByteArray := prog_13_method_5_code
def yX11_bits : MethodName := ⟨RX11, "bits", "(I)I"⟩
abbrev cX11_told : ByteArray := prog_13_method_6_code
def yX11_told : MethodName := ⟨RX11, "told", "(JJI)J"⟩
abbrev cX11_refused : ByteArray := prog_13_method_7_code
def yX11_refused : MethodName := ⟨RX11, "refused", "(I)I"⟩
abbrev cX11_failed : ByteArray := prog_13_method_8_code
def yX11_failed : MethodName := ⟨RX11, "failed", "(I)I"⟩
abbrev cX11_failedLong : ByteArray := prog_13_method_9_code
def yX11_failedLong : MethodName := ⟨RX11, "failedLong", "(I)J"⟩
abbrev cX11_noTale : ByteArray := prog_13_method_10_code
def yX11_noTale : MethodName := ⟨RX11, "noTale", "(I)Z"⟩
abbrev cX11_codeAt : ByteArray := prog_13_method_11_code
def yX11_codeAt : MethodName := ⟨RX11, "codeAt", "(II)I"⟩
abbrev cX11_figure : ByteArray := prog_13_method_12_code
def yX11_figure : MethodName := ⟨RX11, "figure", "(IIII)I"⟩
abbrev cX11_readsTale : ByteArray := prog_13_method_13_code
def yX11_readsTale : MethodName := ⟨RX11, "readsTale", "(II)Z"⟩
abbrev cX11_readsForest : ByteArray := prog_13_method_14_code
def yX11_readsForest : MethodName := ⟨RX11, "readsForest", "(II)Z"⟩
abbrev cX11_cellsBarred : ByteArray := prog_13_method_15_code
def yX11_cellsBarred : MethodName := ⟨RX11, "cellsBarred", "(IIIJ)I"⟩
abbrev cX11_forest : ByteArray := prog_13_method_16_code
def yX11_forest : MethodName := ⟨RX11, "forest", "(IIII)I"⟩
abbrev cX11_hasAnswer : ByteArray := prog_13_method_17_code
def yX11_hasAnswer : MethodName := ⟨RX11, "hasAnswer", "(III)Z"⟩
abbrev cX11_ofTale : ByteArray := prog_13_method_18_code
def yX11_ofTale : MethodName := ⟨RX11, "ofTale", "(II)I"⟩
abbrev cX11_know : ByteArray := prog_13_method_19_code
def yX11_know : MethodName := ⟨RX11, "know", "(IZ)I"⟩
abbrev cX11_believe : ByteArray := prog_13_method_20_code
def yX11_believe : MethodName := ⟨RX11, "believe", "(IZ)I"⟩
abbrev cX11_beginNight : ByteArray := prog_13_method_21_code
def yX11_beginNight : MethodName := ⟨RX11, "beginNight", "(I)V"⟩
abbrev cX11_goSteps : ByteArray := prog_13_method_22_code
def yX11_goSteps : MethodName := ⟨RX11, "goSteps", "(I)V"⟩
abbrev cX11_goTale : ByteArray := prog_13_method_23_code
def yX11_goTale : MethodName := ⟨RX11, "goTale", "(I)Z"⟩
abbrev cX11_goHeard : ByteArray := prog_13_method_24_code
def yX11_goHeard : MethodName := ⟨RX11, "goHeard", "(I)V"⟩
abbrev cX11_goOrder : ByteArray := prog_13_method_25_code
def yX11_goOrder : MethodName := ⟨RX11, "goOrder", "(III)V"⟩
abbrev cX11_orderBarred : ByteArray := prog_13_method_26_code
def yX11_orderBarred : MethodName := ⟨RX11, "orderBarred", "(IIII)I"⟩
abbrev cX11_night : ByteArray := prog_13_method_27_code
def yX11_night : MethodName := ⟨RX11, "night", "(IIIII)I"⟩
abbrev cX11_comes : ByteArray := prog_13_method_28_code
def yX11_comes : MethodName := ⟨RX11, "comes", "(IIII)I"⟩
abbrev cX11_isUsed : ByteArray := prog_13_method_29_code
def yX11_isUsed : MethodName := ⟨RX11, "isUsed", "(II)Z"⟩
abbrev cX11_lookAtRow : ByteArray := prog_13_method_30_code
def yX11_lookAtRow : MethodName := ⟨RX11, "lookAtRow", "(I)V"⟩
abbrev cX11_seekNever : ByteArray := prog_13_method_31_code
def yX11_seekNever : MethodName := ⟨RX11, "seekNever", "(I)V"⟩
abbrev cX11_never : ByteArray := prog_13_method_32_code
def yX11_never : MethodName := ⟨RX11, "never", "(II)I"⟩
abbrev cX11_study : ByteArray := prog_13_method_33_code
def yX11_study : MethodName := ⟨RX11, "study", "(IIII)I"⟩
abbrev cX11_nextWay : ByteArray := prog_13_method_34_code
def yX11_nextWay : MethodName := ⟨RX11, "nextWay", "(I)I"⟩
abbrev cX11_goWay : ByteArray := prog_13_method_35_code
def yX11_goWay : MethodName := ⟨RX11, "goWay", "(I)V"⟩
abbrev cX11_play : ByteArray := prog_13_method_36_code
def yX11_play : MethodName := ⟨RX11, "play", "(I)I"⟩
abbrev cX11_game : ByteArray := prog_13_method_37_code
def yX11_game : MethodName := ⟨RX11, "game", "(I)I"⟩
abbrev cX11_porter : ByteArray := prog_13_method_38_code
def yX11_porter : MethodName := ⟨RX11, "porter", "(III)J"⟩
abbrev cX11_reading : ByteArray := prog_13_method_39_code
def yX11_reading : MethodName := ⟨RX11, "reading", "(III)I"⟩
abbrev cX11_back : ByteArray := prog_13_method_40_code
def yX11_back : MethodName := ⟨RX11, "back", "(I)I"⟩
abbrev cX11_areSo : ByteArray := prog_13_method_41_code
def yX11_areSo : MethodName := ⟨RX11, "areSo", "(I)Z"⟩
abbrev cX11_fits : ByteArray := prog_13_method_42_code
def yX11_fits : MethodName := ⟨RX11, "fits", "(I)I"⟩
abbrev cX11_noSheet : ByteArray := prog_13_method_43_code
def yX11_noSheet : MethodName := ⟨RX11, "noSheet", "(I)Z"⟩
abbrev cX11_sheet : ByteArray := prog_13_method_44_code
def yX11_sheet : MethodName := ⟨RX11, "sheet", "(III)I"⟩
abbrev cX11_lose : ByteArray := prog_13_method_45_code
def yX11_lose : MethodName := ⟨RX11, "lose", "(I)I"⟩
abbrev cX11_noCell : ByteArray := prog_13_method_46_code
def yX11_noCell : MethodName := ⟨RX11, "noCell", "(II)I"⟩
abbrev cX11_put : ByteArray := prog_13_method_47_code
def yX11_put : MethodName := ⟨RX11, "put", "(III)I"⟩
abbrev cX11_cell : ByteArray := prog_13_method_48_code
def yX11_cell : MethodName := ⟨RX11, "cell", "(III)J"⟩
abbrev cX11_isBeyond : ByteArray := prog_13_method_49_code
def yX11_isBeyond : MethodName := ⟨RX11, "isBeyond", "(IJI)Z"⟩
abbrev cX11_copy : ByteArray := prog_13_method_50_code
def yX11_copy : MethodName := ⟨RX11, "copy", "(IIIII)I"⟩
abbrev cX11_traced : ByteArray := prog_13_method_51_code
def yX11_traced : MethodName := ⟨RX11, "traced", "(I)V"⟩
abbrev cX11_tell : ByteArray := prog_13_method_52_code
def yX11_tell : MethodName := ⟨RX11, "tell", "(I)I"⟩
abbrev cX11_whisper : ByteArray := prog_13_method_53_code
def yX11_whisper : MethodName := ⟨RX11, "whisper", "(I)I"⟩
abbrev cX11_as : ByteArray := prog_13_method_54_code
def yX11_as : MethodName := ⟨RX11, "as", "(II)I"⟩
abbrev cX11_trace : ByteArray := prog_13_method_55_code
def yX11_trace : MethodName := ⟨RX11, "trace", "()I"⟩
abbrev cX11_fault : ByteArray := prog_13_method_56_code
def yX11_fault : MethodName := ⟨RX11, "fault", "()I"⟩
abbrev cX11_many : ByteArray := prog_13_method_57_code
def yX11_many : MethodName := ⟨RX11, "many", "(I)I"⟩
def RJ6 : String := "java/lang/Integer"
def TJ6 : u_T := fun k => match k with
  | _ => ("", "", "", false)
def tyJ6 : Nat → FieldType := fun k => match k with
  | _ => .int
abbrev wsJ60 : List Cond := u_ws RJ6 TJ6 0
theorem nmJ6 : ∀ a, a < 0 → ∀ b, b < 0 → a ≠ b → (TJ6 a).2.1 ≠ (TJ6 b).2.1 := by decide +kernel
theorem tyJ6_ok : ∀ k, k < 0 → parseFieldDescriptor (TJ6 k).2.2.1 = some (tyJ6 k) := by decide +kernel
abbrev cJ6_bitCount_0f7a4 : ByteArray := prog_14_method_49_code
def yJ6_bitCount_0f7a4 : MethodName := ⟨RJ6, "bitCount", "(I)I"⟩
def RJ9 : String := "java/lang/Math"
def TJ9 : u_T := fun k => match k with
  | _ => ("", "", "", false)
def tyJ9 : Nat → FieldType := fun k => match k with
  | _ => .int
abbrev wsJ90 : List Cond := u_ws RJ9 TJ9 0
theorem nmJ9 : ∀ a, a < 0 → ∀ b, b < 0 → a ≠ b → (TJ9 a).2.1 ≠ (TJ9 b).2.1 := by decide +kernel
theorem tyJ9_ok : ∀ k, k < 0 → parseFieldDescriptor (TJ9 k).2.2.1 = some (tyJ9 k) := by decide +kernel
abbrev cJ9_max_7cf53 : ByteArray := prog_15_method_65_code
def yJ9_max_7cf53 : MethodName := ⟨RJ9, "max", "(II)I"⟩
abbrev cJ9_min_7cf53 : ByteArray := prog_15_method_69_code
def yJ9_min_7cf53 : MethodName := ⟨RJ9, "min", "(II)I"⟩
def RJ10 : String := "java/lang/System"
def TJ10 : u_T := fun k => match k with
  | _ => ("", "", "", false)
def tyJ10 : Nat → FieldType := fun k => match k with
  | _ => .int
abbrev wsJ100 : List Cond := u_ws RJ10 TJ10 0
theorem nmJ10 : ∀ a, a < 0 → ∀ b, b < 0 → a ≠ b → (TJ10 a).2.1 ≠ (TJ10 b).2.1 := by decide +kernel
theorem tyJ10_ok : ∀ k, k < 0 → parseFieldDescriptor (TJ10 k).2.2.1 = some (tyJ10 k) := by decide +kernel
def RJ7 : String := "java/util/Arrays"
def TJ7 : u_T := fun k => match k with
  | _ => ("", "", "", false)
def tyJ7 : Nat → FieldType := fun k => match k with
  | _ => .int
abbrev wsJ70 : List Cond := u_ws RJ7 TJ7 0
theorem nmJ7 : ∀ a, a < 0 → ∀ b, b < 0 → a ≠ b → (TJ7 a).2.1 ≠ (TJ7 b).2.1 := by decide +kernel
theorem tyJ7_ok : ∀ k, k < 0 → parseFieldDescriptor (TJ7 k).2.2.1 = some (tyJ7 k) := by decide +kernel
abbrev cJ7_fill_53178 : ByteArray := prog_17_method_103_code
def yJ7_fill_53178 : MethodName := ⟨RJ7, "fill", "([II)V"⟩
def RL : String := "CorpseTalesLaw"
abbrev cL_law : ByteArray := code
def yL_law : MethodName := ⟨RL, "law", "([I)Z"⟩
abbrev vwCl : List vw_C := [(RX0, TX0, 5), (RX1, TX1, 3), (RX2, TX2, 2), (RX3, TX3, 5), (RX4, TX4, 8), (RX5, TX5, 5), (RX6, TX6, 4), (RX7, TX7, 3), (RX8, TX8, 5), (RX9, TX9, 1), (RX10, TX10, 12), (RX11, TX11, 43)]
end
section
/-! the deep machine: values, a heap of numbered cells, frames, one step -/
abbrev zV : Type := Int32 ⊕ (Int64 ⊕ Option Nat)
/-- cells, slots in use, kind and length of a cell, its ints, its references -/
abbrev zH : Type := Nat × Nat × (Nat → Nat × Nat) × (Nat → Nat → Int32) × (Nat → Nat → Option Nat)
abbrev zR : Type := Option zV × zH
abbrev zL : Type := List (Option zV)
abbrev zS : Type := Nat × zL × List zV × zH
/-- an instruction, its length, a number, a table -/
abbrev zO : Type := Instr × Nat × Int × List (Nat × Nat × Nat × String × String)
def zn (h : zH) : Nat := h.1
def zu (h : zH) : Nat := h.2.1
def zk (h : zH) (a : Nat) : Nat × Nat := h.2.2.1 a
def zi (h : zH) (a j : Nat) : Int32 := h.2.2.2.1 a j
def zr (h : zH) (a j : Nat) : Option Nat := h.2.2.2.2 a j
def zwI (h : zH) (a j : Nat) (v : Int32) : zH := (h.1, h.2.1, h.2.2.1, fun x y => if x = a ∧ y = j then v else h.2.2.2.1 x y, h.2.2.2.2)
def zwR (h : zH) (a j : Nat) (r : Option Nat) : zH := (h.1, h.2.1, h.2.2.1, h.2.2.2.1, fun x y => if x = a ∧ y = j then r else h.2.2.2.2 x y)
def zwC (h : zH) (a sp b dp n : Nat) : zH := (h.1, h.2.1, h.2.2.1, fun x y => if x = b ∧ dp ≤ y ∧ y < dp + n then h.2.2.2.1 a (sp + (y - dp)) else h.2.2.2.1 x y, h.2.2.2.2)
def zN (h : zH) (t n N : Nat) : zH := (h.1 + 1, h.2.1 + N, fun x => if x = h.1 then (t, n) else h.2.2.1 x, fun x y => if x = h.1 then 0 else h.2.2.2.1 x y, fun x y => if x = h.1 then none else h.2.2.2.2 x y)
def zix (i : Int32) (n : Nat) : Option Nat := if i < 0 ∨ n ≤ i.toNatClampNeg then none else some i.toNatClampNeg
/-- locals -/
def zcl (x : Option zV) : Option zV := match x with
  | some (.inr (.inl _)) => none
  | x => x
def zst1 : zL → Nat → zV → zL
  | [], _, _ => []
  | _ :: ls, 0, v => some v :: ls
  | [x], 1, _ => [x]
  | x :: _ :: ls, 1, v => zcl x :: some v :: ls
  | x :: ls, k + 2, v => x :: zst1 ls (k + 1) v
def zst2 (ls : zL) (i : Nat) (v : zV) : zL := (zst1 ls i v).set (i + 1) none
def zld (ls : zL) (i : Nat) : Option zV := match ls[i]? with
  | some (some v) => some v
  | _ => none
def zlong (v : zV) : Bool := match v with
  | .inr (.inl _) => true
  | _ => false
def zlsA : List zV → zL
  | [] => []
  | v :: vs => if zlong v then some v :: none :: zlsA vs else some v :: zlsA vs
def zls (vs : List zV) (n : Nat) : zL := zlsA vs ++ List.replicate (n - (zlsA vs).length) none
def zfind : List (Nat × Nat × Nat × String × String) → Nat → Option Nat
  | [], _ => none
  | q :: l, t => if q.1 = t then some q.2.1 else zfind l t
def ztg (pc : Nat) (off : Int) : Nat := ((pc : Int) + off).toNat
def zcond (c : ClassFile.Cond) (x y : Int32) : Bool := match c with
  | .eq => decide (x = y)
  | .ne => !decide (x = y)
  | .lt => decide (x < y)
  | .ge => decide (y ≤ x)
  | .gt => decide (y < x)
  | .le => decide (x ≤ y)
abbrev zT : Type := Option (zR ⊕ zS)
def zgo (pc : Nat) (ls : zL) (st : List zV) (h : zH) : zT := some (.inr (pc, ls, st, h))
def zpush (k pc : Nat) (ls : zL) (st : List zV) (h : zH) (v : zV) : zT := some (.inr (pc + k, ls, v :: st, h))
def zop2 (f : Int32 → Int32 → Option Int32) (pc : Nat) (ls : zL) (st : List zV) (h : zH) : zT := match st with
  | .inl y :: .inl x :: r => (f x y).bind fun v => zgo (pc + 1) ls (.inl v :: r) h
  | _ => none
def zop2l (f : Int64 → Int64 → Option Int64) (pc : Nat) (ls : zL) (st : List zV) (h : zH) : zT := match st with
  | .inr (.inl y) :: .inr (.inl x) :: r => (f x y).bind fun v => zgo (pc + 1) ls (.inr (.inl v) :: r) h
  | _ => none
def zop1 (f : Int32 → zV) (pc : Nat) (ls : zL) (st : List zV) (h : zH) : zT := match st with
  | .inl x :: r => zgo (pc + 1) ls (f x :: r) h
  | _ => none
/-- a load, a store: of kind 0 int, 1 long, 2 reference -/
def zload (w k i pc : Nat) (ls : zL) (st : List zV) (h : zH) : zT := match w, zld ls i with
  | 0, some (.inl v) => zpush k pc ls st h (.inl v)
  | 1, some (.inr (.inl v)) => zpush k pc ls st h (.inr (.inl v))
  | 2, some (.inr (.inr v)) => zpush k pc ls st h (.inr (.inr v))
  | _, _ => none
def zstore (w k i pc : Nat) (ls : zL) (st : List zV) (h : zH) : zT := match w, st with
  | 0, .inl v :: r => if i < ls.length then zgo (pc + k) (zst1 ls i (.inl v)) r h else none
  | 1, .inr (.inl v) :: r => if i + 1 < ls.length then zgo (pc + k) (zst2 ls i (.inr (.inl v))) r h else none
  | 2, .inr (.inr v) :: r => if i < ls.length then zgo (pc + k) (zst1 ls i (.inr (.inr v))) r h else none
  | _, _ => none
def zget (o : zO) (pc : Nat) (ls : zL) (st : List zV) (h : zH) : zT := match st with
  | .inr (.inr (some a)) :: r => (zfind o.2.2.2 (zk h a).1).bind fun k => if o.2.2.1 = 2 then zgo (pc + 3) ls (.inr (.inr (zr h a k)) :: r) h else zgo (pc + 3) ls (.inl (zi h a k) :: r) h
  | _ => none
def zput (o : zO) (pc : Nat) (ls : zL) (st : List zV) (h : zH) : zT := match st with
  | .inl v :: .inr (.inr (some a)) :: r => (zfind o.2.2.2 (zk h a).1).bind fun k => if o.2.2.1 = 0 ∨ (o.2.2.1 = 1 ∧ (v = 0 ∨ v = 1)) then zgo (pc + 3) ls r (zwI h a k v) else none
  | .inr (.inr q) :: .inr (.inr (some a)) :: r => (zfind o.2.2.2 (zk h a).1).bind fun k => if o.2.2.1 = 2 then zgo (pc + 3) ls r (zwR h a k q) else none
  | _ => none
def zald (pc : Nat) (ls : zL) (st : List zV) (h : zH) : zT := match st with
  | .inl i :: .inr (.inr (some a)) :: r => if (zk h a).1 = 12 ∨ (zk h a).1 = 16 then (zix i (zk h a).2).bind fun j => zgo (pc + 1) ls (.inl (zi h a j) :: r) h else none
  | _ => none
def zast (pc : Nat) (ls : zL) (st : List zV) (h : zH) : zT := match st with
  | .inl v :: .inl i :: .inr (.inr (some a)) :: r => if (zk h a).1 = 12 then (zix i (zk h a).2).bind fun j => zgo (pc + 1) ls r (zwI h a j v) else none
  | _ => none
def zaald (pc : Nat) (ls : zL) (st : List zV) (h : zH) : zT := match st with
  | .inl i :: .inr (.inr (some a)) :: r => if 13 ≤ (zk h a).1 ∧ (zk h a).1 ≤ 15 then (zix i (zk h a).2).bind fun j => zgo (pc + 1) ls (.inr (.inr (zr h a j)) :: r) h else none
  | _ => none
/-- which objects an array of references takes: array kind, class -/
def zfit (t c : Nat) : Bool := (t == 13 && (c == 8 || c == 0 || c == 5)) || (t == 14 && c == 4) || (t == 15 && c == 7)
def zaast (pc : Nat) (ls : zL) (st : List zV) (h : zH) : zT := match st with
  | .inr (.inr (some q)) :: .inl i :: .inr (.inr (some a)) :: r => if zfit (zk h a).1 (zk h q).1 = true then (zix i (zk h a).2).bind fun j => zgo (pc + 1) ls r (zwR h a j (some q)) else none
  | _ => none
def zalen (pc : Nat) (ls : zL) (st : List zV) (h : zH) : zT := match st with
  | .inr (.inr (some a)) :: r => if 12 ≤ (zk h a).1 ∧ (zk h a).1 ≤ 16 then zgo (pc + 1) ls (.inl (Int32.ofNat (zk h a).2) :: r) h else none
  | _ => none
def znew (o : zO) (pc : Nat) (ls : zL) (st : List zV) (h : zH) : zT := match o.2.2.2 with
  | [q] => zgo (pc + 3) ls (.inr (.inr (some (zn h))) :: st) (zN h q.1 0 q.2.1)
  | _ => none
def znewa (k t pc : Nat) (ls : zL) (st : List zV) (h : zH) : zT := match st with
  | .inl n :: r => if n < 0 ∨ 1000 < n.toNatClampNeg then none else zgo (pc + k) ls (.inr (.inr (some (zn h))) :: r) (zN h t n.toNatClampNeg n.toNatClampNeg)
  | _ => none
def zinst (o : zO) (pc : Nat) (ls : zL) (st : List zV) (h : zH) : zT := match st with
  | .inr (.inr (some a)) :: r => (zfind o.2.2.2 (zk h a).1).bind fun k => zgo (pc + 3) ls (.inl (if k = 1 then 1 else 0) :: r) h
  | _ => none
def zcopy (pc : Nat) (ls : zL) (st : List zV) (h : zH) : zT := match st with
  | .inl n :: .inl dp :: .inr (.inr (some q)) :: .inl sp :: .inr (.inr (some a)) :: r =>
    if (zk h a).1 = 12 ∧ (zk h q).1 = 12 ∧ ¬ n < 0 ∧ ¬ dp < 0 ∧ ¬ sp < 0 ∧ sp.toNatClampNeg + n.toNatClampNeg ≤ (zk h a).2 ∧ dp.toNatClampNeg + n.toNatClampNeg ≤ (zk h q).2 ∧ r = [] then zgo (pc + 3) ls r (zwC h a sp.toNatClampNeg q dp.toNatClampNeg n.toNatClampNeg) else none
  | _ => none
def zmax (pc : Nat) (ls : zL) (st : List zV) (h : zH) : zT := match st with
  | .inl y :: .inl x :: r => if r.length ≤ 4 then zgo (pc + 3) ls (.inl (if x < y then y else x) :: r) h else none
  | _ => none
def zmin (pc : Nat) (ls : zL) (st : List zV) (h : zH) : zT := match st with
  | .inl y :: .inl x :: r => if r.length ≤ 4 then zgo (pc + 3) ls (.inl (if y < x then y else x) :: r) h else none
  | _ => none
/-- a call's end: what it answers lies on what was below its arguments -/
def zback (pc : Nat) (ls : zL) (r : List zV) (q : Option zR) : zT := q.bind fun q => zgo (pc + 3) ls (q.1.toList ++ r) q.2
def zcallS (cal : Nat → List zV → zH → Option zR) (o : zO) (pc : Nat) (ls : zL) (st : List zV) (h : zH) : zT := match o.2.2.2 with
  | [q] => if o.2.2.1.toNat ≤ st.length ∧ st.length - o.2.2.1.toNat ≤ 4 then zback pc ls (st.drop o.2.2.1.toNat) (cal q.2.1 (st.take o.2.2.1.toNat).reverse h) else none
  | _ => none
def zcallV (cal : Nat → List zV → zH → Option zR) (o : zO) (pc : Nat) (ls : zL) (st : List zV) (h : zH) : zT := match st.drop o.2.2.1.toNat with
  | .inr (.inr (some a)) :: r => if r.length ≤ 4 then (zfind o.2.2.2 (zk h a).1).bind fun mid => zback pc ls r (cal mid (.inr (.inr (some a)) :: (st.take o.2.2.1.toNat).reverse) h) else none
  | _ => none
/-- the constructor, super's method: its number alone decides; -1: Object's constructor -/
def zcallI (cal : Nat → List zV → zH → Option zR) (o : zO) (pc : Nat) (ls : zL) (st : List zV) (h : zH) : zT :=
  if o.2.2.1 = -1 then (match st with
    | .inr (.inr (some _)) :: r => if r.length ≤ 4 then zgo (pc + 3) ls r h else none
    | _ => none)
  else match o.2.2.2, st.drop o.2.2.1.toNat with
    | [q], .inr (.inr (some a)) :: r => if r.length ≤ 4 ∧ (zk h a).1 < 12 then zback pc ls r (cal q.2.1 (.inr (.inr (some a)) :: (st.take o.2.2.1.toNat).reverse) h) else none
    | _, _ => none
def zjump (c : ClassFile.Cond) (off : Int) (pc : Nat) (ls : zL) (st : List zV) (h : zH) : zT := match st with
  | .inl x :: r => if zcond c x 0 = true then zgo (ztg pc off) ls r h else zgo (pc + 3) ls r h
  | _ => none
def zjump2 (c : ClassFile.Cond) (off : Int) (pc : Nat) (ls : zL) (st : List zV) (h : zH) : zT := match st with
  | .inl y :: .inl x :: r => if zcond c x y = true then zgo (ztg pc off) ls r h else zgo (pc + 3) ls r h
  | _ => none
def zjumpN (z : Bool) (off : Int) (pc : Nat) (ls : zL) (st : List zV) (h : zH) : zT := match st with
  | .inr (.inr q) :: r => if q.isNone = z then zgo (ztg pc off) ls r h else zgo (pc + 3) ls r h
  | _ => none
def ztab (d lo hi : Int) (offs : Array Int) (pc : Nat) (ls : zL) (st : List zV) (h : zH) : zT := match st with
  | .inl x :: r => if x.toInt < lo ∨ hi < x.toInt then zgo (ztg pc d) ls r h else (offs[(x.toInt - lo).toNat]?).bind fun off => zgo (ztg pc off) ls r h
  | _ => none
def zlook (d : Int) (ps : Array (Int × Int)) (pc : Nat) (ls : zL) (st : List zV) (h : zH) : zT := match st with
  | .inl x :: r => zgo (ztg pc (Op.lookupswitch.offset ps.toList d x.toInt)) ls r h
  | _ => none
def zdup (pc : Nat) (ls : zL) (st : List zV) (h : zH) : zT := match st with
  | v :: r => if zlong v = false then zgo (pc + 1) ls (v :: v :: r) h else none
  | _ => none
def zdup2 (pc : Nat) (ls : zL) (st : List zV) (h : zH) : zT := match st with
  | v :: w :: r => if zlong v = false ∧ zlong w = false then zgo (pc + 1) ls (v :: w :: v :: w :: r) h else none
  | _ => none
def zpop (pc : Nat) (ls : zL) (st : List zV) (h : zH) : zT := match st with
  | v :: r => if zlong v = false then zgo (pc + 1) ls r h else none
  | _ => none
def zinc (i : Nat) (n : Int) (pc : Nat) (ls : zL) (st : List zV) (h : zH) : zT := match zld ls i with
  | some (.inl x) => if i < ls.length then zgo (pc + 3) (zst1 ls i (.inl (x + Int32.ofInt n))) st h else none
  | _ => none
def zlcmp (pc : Nat) (ls : zL) (st : List zV) (h : zH) : zT := match st with
  | .inr (.inl y) :: .inr (.inl x) :: r => zgo (pc + 1) ls (.inl (lg_cmp x y) :: r) h
  | _ => none
/-- the end of a method: flag 1: a boolean's -/
def zret (o : zO) (st : List zV) (h : zH) : zT := match o.1, st with
  | .ireturn, [.inl v] => if o.2.2.1 = 1 ∧ ¬ (v = 0 ∨ v = 1) then none else some (.inl (some (.inl v), h))
  | .lreturn, [.inr (.inl v)] => some (.inl (some (.inr (.inl v)), h))
  | .areturn, [.inr (.inr v)] => some (.inl (some (.inr (.inr v)), h))
  | .return_, [] => some (.inl (none, h))
  | _, _ => none
def zstp (cal : Nat → List zV → zH → Option zR) (o : zO) (x : zS) : zT :=
  match o.1 with
  | .iconst n => zpush 1 x.1 x.2.1 x.2.2.1 x.2.2.2 (.inl (Int32.ofInt n))
  | .bipush n => zpush 2 x.1 x.2.1 x.2.2.1 x.2.2.2 (.inl (Int8.ofInt n).toInt32)
  | .sipush n => zpush 3 x.1 x.2.1 x.2.2.1 x.2.2.2 (.inl (Int16.ofInt n).toInt32)
  | .lconst n => zpush 1 x.1 x.2.1 x.2.2.1 x.2.2.2 (.inr (.inl (Int64.ofNat n)))
  | .ldc _ => zpush 2 x.1 x.2.1 x.2.2.1 x.2.2.2 (.inl (Int32.ofInt o.2.2.1))
  | .ldc_w _ => zpush 3 x.1 x.2.1 x.2.2.1 x.2.2.2 (.inl (Int32.ofInt o.2.2.1))
  | .ldc2_w _ => zpush 3 x.1 x.2.1 x.2.2.1 x.2.2.2 (.inr (.inl (Int64.ofInt o.2.2.1)))
  | .aconst_null => zpush 1 x.1 x.2.1 x.2.2.1 x.2.2.2 (.inr (.inr none))
  | .iload_n i => zload 0 1 i x.1 x.2.1 x.2.2.1 x.2.2.2
  | .iload i => zload 0 2 i x.1 x.2.1 x.2.2.1 x.2.2.2
  | .lload_n i => zload 1 1 i x.1 x.2.1 x.2.2.1 x.2.2.2
  | .lload i => zload 1 2 i x.1 x.2.1 x.2.2.1 x.2.2.2
  | .aload_n i => zload 2 1 i x.1 x.2.1 x.2.2.1 x.2.2.2
  | .aload i => zload 2 2 i x.1 x.2.1 x.2.2.1 x.2.2.2
  | .istore_n i => zstore 0 1 i x.1 x.2.1 x.2.2.1 x.2.2.2
  | .istore i => zstore 0 2 i x.1 x.2.1 x.2.2.1 x.2.2.2
  | .lstore_n i => zstore 1 1 i x.1 x.2.1 x.2.2.1 x.2.2.2
  | .lstore i => zstore 1 2 i x.1 x.2.1 x.2.2.1 x.2.2.2
  | .astore_n i => zstore 2 1 i x.1 x.2.1 x.2.2.1 x.2.2.2
  | .astore i => zstore 2 2 i x.1 x.2.1 x.2.2.1 x.2.2.2
  | .iinc i n => zinc i n x.1 x.2.1 x.2.2.1 x.2.2.2
  | .iadd => zop2 (fun x y => some (x + y)) x.1 x.2.1 x.2.2.1 x.2.2.2
  | .isub => zop2 (fun x y => some (x - y)) x.1 x.2.1 x.2.2.1 x.2.2.2
  | .imul => zop2 (fun x y => some (x * y)) x.1 x.2.1 x.2.2.1 x.2.2.2
  | .iand => zop2 (fun x y => some (x &&& y)) x.1 x.2.1 x.2.2.1 x.2.2.2
  | .ior => zop2 (fun x y => some (x ||| y)) x.1 x.2.1 x.2.2.1 x.2.2.2
  | .ixor => zop2 (fun x y => some (x ^^^ y)) x.1 x.2.1 x.2.2.1 x.2.2.2
  | .ishl => zop2 (fun x y => some (x <<< (y &&& 31))) x.1 x.2.1 x.2.2.1 x.2.2.2
  | .ishr => zop2 (fun x y => some (x >>> (y &&& 31))) x.1 x.2.1 x.2.2.1 x.2.2.2
  | .iushr => zop2 (fun x y => some (x.toUInt32 >>> (y.toUInt32 &&& Int32.toUInt32 31)).toInt32) x.1 x.2.1 x.2.2.1 x.2.2.2
  | .idiv => zop2 (fun x y => if y = 0 then none else some (x / y)) x.1 x.2.1 x.2.2.1 x.2.2.2
  | .irem => zop2 (fun x y => if y = 0 then none else some (x - x / y * y)) x.1 x.2.1 x.2.2.1 x.2.2.2
  | .ineg => zop1 (fun x => .inl (-x)) x.1 x.2.1 x.2.2.1 x.2.2.2
  | .i2l => zop1 (fun x => .inr (.inl x.toInt64)) x.1 x.2.1 x.2.2.1 x.2.2.2
  | .i2b => zop1 (fun x => .inl x.toInt8.toInt32) x.1 x.2.1 x.2.2.1 x.2.2.2
  | .i2s => zop1 (fun x => .inl x.toInt16.toInt32) x.1 x.2.1 x.2.2.1 x.2.2.2
  | .ladd => zop2l (fun x y => some (x + y)) x.1 x.2.1 x.2.2.1 x.2.2.2
  | .lsub => zop2l (fun x y => some (x - y)) x.1 x.2.1 x.2.2.1 x.2.2.2
  | .lmul => zop2l (fun x y => some (x * y)) x.1 x.2.1 x.2.2.1 x.2.2.2
  | .ldiv => zop2l (fun x y => if y = 0 then none else some (x / y)) x.1 x.2.1 x.2.2.1 x.2.2.2
  | .lrem => zop2l (fun x y => if y = 0 then none else some (x - x / y * y)) x.1 x.2.1 x.2.2.1 x.2.2.2
  | .lcmp => zlcmp x.1 x.2.1 x.2.2.1 x.2.2.2
  | .dup => zdup x.1 x.2.1 x.2.2.1 x.2.2.2
  | .dup2 => zdup2 x.1 x.2.1 x.2.2.1 x.2.2.2
  | .pop => zpop x.1 x.2.1 x.2.2.1 x.2.2.2
  | .ifCond c off => zjump c off x.1 x.2.1 x.2.2.1 x.2.2.2
  | .if_icmp c off => zjump2 c off x.1 x.2.1 x.2.2.1 x.2.2.2
  | .ifnull off => zjumpN true off x.1 x.2.1 x.2.2.1 x.2.2.2
  | .ifnonnull off => zjumpN false off x.1 x.2.1 x.2.2.1 x.2.2.2
  | .goto off => zgo (ztg x.1 off) x.2.1 x.2.2.1 x.2.2.2
  | .tableswitch d lo hi offs => ztab d lo hi offs x.1 x.2.1 x.2.2.1 x.2.2.2
  | .lookupswitch d ps => zlook d ps x.1 x.2.1 x.2.2.1 x.2.2.2
  | .getfield _ => zget o x.1 x.2.1 x.2.2.1 x.2.2.2
  | .putfield _ => zput o x.1 x.2.1 x.2.2.1 x.2.2.2
  | .iaload => zald x.1 x.2.1 x.2.2.1 x.2.2.2
  | .iastore => zast x.1 x.2.1 x.2.2.1 x.2.2.2
  | .aaload => zaald x.1 x.2.1 x.2.2.1 x.2.2.2
  | .aastore => zaast x.1 x.2.1 x.2.2.1 x.2.2.2
  | .arraylength => zalen x.1 x.2.1 x.2.2.1 x.2.2.2
  | .new _ => znew o x.1 x.2.1 x.2.2.1 x.2.2.2
  | .newarray .int => znewa 2 12 x.1 x.2.1 x.2.2.1 x.2.2.2
  | .anewarray _ => znewa 3 o.2.2.1.toNat x.1 x.2.1 x.2.2.1 x.2.2.2
  | .instanceof _ => zinst o x.1 x.2.1 x.2.2.1 x.2.2.2
  | .invokestatic _ => if o.2.2.1 = -2 then zcopy x.1 x.2.1 x.2.2.1 x.2.2.2 else if o.2.2.1 = -3 then zmax x.1 x.2.1 x.2.2.1 x.2.2.2 else if o.2.2.1 = -4 then zmin x.1 x.2.1 x.2.2.1 x.2.2.2 else zcallS cal o x.1 x.2.1 x.2.2.1 x.2.2.2
  | .invokevirtual _ => zcallV cal o x.1 x.2.1 x.2.2.1 x.2.2.2
  | .invokespecial _ => zcallI cal o x.1 x.2.1 x.2.2.1 x.2.2.2
  | .ireturn => zret o x.2.2.1 x.2.2.2
  | .lreturn => zret o x.2.2.1 x.2.2.2
  | .areturn => zret o x.2.2.1 x.2.2.2
  | .return_ => zret o x.2.2.1 x.2.2.2
  | _ => none
/-- so many steps -/
def zex (cal : Nat → List zV → zH → Option zR) (cd : Nat → Option zO) : Nat → zS → Option zR
  | 0, _ => none
  | n + 1, x => match (cd x.1).bind fun o => zstp cal o x with
    | none => none
    | some (.inl r) => some r
    | some (.inr y) => zex cal cd n y
theorem zex_up {cal : Nat → List zV → zH → Option zR} {cd : Nat → Option zO} : ∀ (n k : Nat) (x : zS) (r : zR), zex cal cd n x = some r → zex cal cd (n + k) x = some r
  | 0, _, _, _, h => by simp [zex] at h
  | n + 1, k, x, r, h => by
    rw [Nat.add_right_comm]
    simp only [zex] at h ⊢
    cases hs : (cd x.1).bind fun o => zstp cal o x with
    | none => rw [hs] at h; exact h
    | some w =>
      rw [hs] at h
      cases w with
      | inl q => exact h
      | inr y => exact zex_up n k y r h
theorem zex_one {cal : Nat → List zV → zH → Option zR} {cd : Nat → Option zO} {n k : Nat} {x : zS} {r q : zR} (h : zex cal cd n x = some r) (h2 : zex cal cd k x = some q) : r = q := by
  have a := zex_up n k x r h
  have b := zex_up k n x q h2
  rw [Nat.add_comm] at b
  rw [a] at b
  exact Option.some.inj b
/-- to the end, if there is one -/
noncomputable def zx (cal : Nat → List zV → zH → Option zR) (cd : Nat → Option zO) (x : zS) : Option zR :=
  @dite (Option zR) (∃ r n, zex cal cd n x = some r) (Classical.propDecidable _) (fun h => some (Classical.choose h)) (fun _ => none)
theorem zx_iff {cal : Nat → List zV → zH → Option zR} {cd : Nat → Option zO} {x : zS} {r : zR} : zx cal cd x = some r ↔ ∃ n, zex cal cd n x = some r := by
  unfold zx
  by_cases h : ∃ r n, zex cal cd n x = some r
  · rw [dif_pos h]
    obtain ⟨k, hk⟩ := Classical.choose_spec h
    constructor
    · intro e
      rw [← Option.some.inj e]
      exact ⟨k, hk⟩
    · rintro ⟨n, hn⟩
      rw [zex_one hk hn]
  · rw [dif_neg h]
    constructor
    · intro e
      cases e
    · rintro ⟨n, hn⟩
      exact absurd ⟨r, n, hn⟩ h
/-- what one step makes of it -/
def zaft (k : zS → Option zR) (t : zT) : Option zR := match t with
  | none => none
  | some (.inl r) => some r
  | some (.inr y) => k y
theorem zx_unf (cal : Nat → List zV → zH → Option zR) (cd : Nat → Option zO) (x : zS) : zx cal cd x = zaft (zx cal cd) ((cd x.1).bind fun o => zstp cal o x) := by
  apply Option.ext
  intro r
  rw [zx_iff]
  constructor
  · rintro ⟨n, hn⟩
    cases n with
    | zero => simp [zex] at hn
    | succ n =>
      simp only [zex] at hn
      cases hs : (cd x.1).bind fun o => zstp cal o x with
      | none => rw [hs] at hn; cases hn
      | some w =>
        rw [hs] at hn
        cases w with
        | inl q => exact hn
        | inr y => exact zx_iff.mpr ⟨n, hn⟩
  · intro h
    cases hs : (cd x.1).bind fun o => zstp cal o x with
    | none => rw [hs] at h; cases h
    | some w =>
      rw [hs] at h
      cases w with
      | inl q =>
        refine ⟨1, ?_⟩
        simp only [zex, hs]
        exact h
      | inr y =>
        obtain ⟨n, hn⟩ := zx_iff.mp h
        refine ⟨n + 1, ?_⟩
        simp only [zex, hs]
        exact hn
/-- calls, so deep: P gives a method's locals and code -/
noncomputable def zcall (P : Nat → Nat × (Nat → Option zO)) : Nat → Nat → List zV → zH → Option zR
  | 0, _, _, _ => none
  | d + 1, mid, args, h => if (zlsA args).length ≤ (P mid).1 then zx (zcall P d) (P mid).2 (0, zls args (P mid).1, [], h) else none
theorem zcall_succ (P : Nat → Nat × (Nat → Option zO)) (d mid : Nat) (args : List zV) (h : zH) : zcall P (d + 1) mid args h = if (zlsA args).length ≤ (P mid).1 then zx (zcall P d) (P mid).2 (0, zls args (P mid).1, [], h) else none := by
  simp only [zcall]
end
section
/-! how the machine's heap and locals hold the deep machine's -/
def zadr (b B k : Nat) : Nat := if k = 0 then b else B + (k - 1)
def ztr (b B : Nat) (v : zV) : Value := match v with
  | .inl x => .int x
  | .inr (.inl x) => .long x
  | .inr (.inr r) => va_rf (r.map (zadr b B))
theorem ztr_cat (b B : Nat) (v : zV) : (ztr b B v).category = 2 ↔ zlong v = true := by
  rcases v with x | x | (_ | x) <;> simp [ztr, zlong, Value.category, va_rf]
def zLV (b B : Nat) (la : Array Slot) (nL : Nat) (ls : zL) : Prop := la.size = nL ∧ lv_wf la ∧ ls.length = nL ∧ ∀ (i : Nat) (v : zV), ls[i]? = some (some v) → la[i]? = some (.val (ztr b B v))
def zas (b B : Nat) (ls : zL) : List (Nat × Value) := (List.range ls.length).filterMap fun i => (zld ls i).map fun v => (i, ztr b B v)
theorem zld_iff {ls : zL} {i : Nat} {v : zV} : zld ls i = some v ↔ ls[i]? = some (some v) := by
  unfold zld
  rcases h : ls[i]? with _ | (_ | w) <;> simp
theorem zas_mem {b B : Nat} {ls : zL} {i : Nat} {v : zV} (h : ls[i]? = some (some v)) : (i, ztr b B v) ∈ zas b B ls := by
  refine List.mem_filterMap.mpr ⟨i, List.mem_range.mpr (List.getElem?_eq_some_iff.mp h).1, ?_⟩
  rw [zld_iff.mpr h]
  rfl
theorem zLV.has {b B : Nat} {la : Array Slot} {nL : Nat} {ls : zL} (h : zLV b B la nL ls) : lv_has la nL (zas b B ls) := by
  refine ⟨h.1, h.2.1, fun q hq => ?_⟩
  obtain ⟨i, -, hi⟩ := List.mem_filterMap.mp hq
  cases hv : zld ls i with
  | none => rw [hv] at hi; cases hi
  | some v =>
    rw [hv] at hi
    cases hi
    exact h.2.2.2 i v (zld_iff.mp hv)
theorem zst1_len : ∀ (ls : zL) (i : Nat) (v : zV), (zst1 ls i v).length = ls.length
  | [], _, _ => by simp [zst1]
  | _ :: ls, 0, v => by simp [zst1]
  | [x], 1, _ => by simp [zst1]
  | x :: _ :: ls, 1, v => by simp [zst1]
  | x :: ls, k + 2, v => by simp [zst1, zst1_len ls (k + 1) v]
theorem zcl_some {x : Option zV} {w : zV} (h : zcl x = some w) : x = some w ∧ zlong w = false := by
  rcases x with _ | (x | x | x) <;> simp [zcl] at h <;> subst h <;> simp [zlong]
theorem zst1_get : ∀ (ls : zL) (i : Nat) (v : zV) (j : Nat) (w : zV), i < ls.length → (zst1 ls i v)[j]? = some (some w) → (j = i ∧ w = v) ∨ (j ≠ i ∧ ls[j]? = some (some w) ∧ ¬ (j + 1 = i ∧ zlong w = true))
  | [], _, _, _, _, hi, _ => absurd hi (Nat.not_lt_zero _)
  | y :: ls, 0, v, j, w, _, h => by
    cases j with
    | zero =>
      simp [zst1] at h
      exact Or.inl ⟨rfl, h.symm⟩
    | succ j =>
      simp [zst1] at h
      exact Or.inr ⟨by omega, by simpa using h, by omega⟩
  | [x], 1, v, j, w, hi, h => by simp at hi
  | x :: y :: ls, 1, v, j, w, _, h => by
    match j, h with
    | 0, h =>
      simp [zst1] at h
      obtain ⟨h1, h2⟩ := zcl_some h
      exact Or.inr ⟨by omega, by simp [h1], fun q => by rw [h2] at q; exact absurd q.2 (by decide)⟩
    | 1, h =>
      simp [zst1] at h
      exact Or.inl ⟨rfl, h.symm⟩
    | j + 2, h =>
      simp [zst1] at h
      exact Or.inr ⟨by omega, by simpa using h, by omega⟩
  | x :: ls, k + 2, v, j, w, hi, h => by
    cases j with
    | zero =>
      simp [zst1] at h
      exact Or.inr ⟨by omega, by simp [h], by omega⟩
    | succ j =>
      simp [zst1] at h
      rcases zst1_get ls (k + 1) v j w (by simp at hi; omega) h with ⟨h1, h2⟩ | ⟨h1, h2, h3⟩
      · exact Or.inl ⟨by omega, h2⟩
      · exact Or.inr ⟨by omega, by simpa using h2, fun q => h3 ⟨by omega, q.2⟩⟩
theorem zLV.st1 {b B : Nat} {la : Array Slot} {nL : Nat} {ls : zL} {i : Nat} {v : zV} (hn : ls.length = nL) (hi : i < nL) (h : lv_has la nL ((i, ztr b B v) :: (zas b B ls).filter (fun q => !(q.1 == i) && !(q.1 + 1 == i && q.2.category == 2)))) : zLV b B la nL (zst1 ls i v) := by
  refine ⟨h.1, h.2.1, by rw [zst1_len, hn], fun j w hj => ?_⟩
  rcases zst1_get ls i v j w (by omega) hj with ⟨rfl, rfl⟩ | ⟨h1, h2, h3⟩
  · exact h.2.2 (j, ztr b B w) List.mem_cons_self
  · refine h.2.2 (j, ztr b B w) (List.mem_cons_of_mem _ (List.mem_filter.mpr ⟨zas_mem h2, ?_⟩))
    have := ztr_cat b B w
    simp only [Bool.and_eq_true, Bool.not_eq_true', beq_eq_false_iff_ne, ne_eq, Bool.and_eq_false_iff]
    refine ⟨h1, ?_⟩
    by_cases q : j + 1 = i
    · exact Or.inr (fun z => h3 ⟨q, this.mp z⟩)
    · exact Or.inl q
theorem zLV.st2 {b B : Nat} {la : Array Slot} {nL : Nat} {ls : zL} {i : Nat} {v : zV} (hn : ls.length = nL) (hi : i + 1 < nL) (h : lv_has la nL ((i, ztr b B v) :: (zas b B ls).filter (fun q => !(q.1 == i) && (!(q.1 == i + 1) && !(q.1 + 1 == i && q.2.category == 2))))) : zLV b B la nL (zst2 ls i v) := by
  refine ⟨h.1, h.2.1, by rw [zst2, List.length_set, zst1_len, hn], fun j w hj => ?_⟩
  have hne : j ≠ i + 1 := by
    rintro rfl
    rw [zst2, List.getElem?_set_self (by rw [zst1_len]; omega)] at hj
    cases hj
  rw [zst2, List.getElem?_set_ne (Ne.symm hne)] at hj
  rcases zst1_get ls i v j w (by omega) hj with ⟨rfl, rfl⟩ | ⟨h1, h2, h3⟩
  · exact h.2.2 (j, ztr b B w) List.mem_cons_self
  · refine h.2.2 (j, ztr b B w) (List.mem_cons_of_mem _ (List.mem_filter.mpr ⟨zas_mem h2, ?_⟩))
    have := ztr_cat b B w
    simp only [Bool.and_eq_true, Bool.not_eq_true', beq_eq_false_iff_ne, ne_eq, Bool.and_eq_false_iff]
    refine ⟨h1, hne, ?_⟩
    by_cases q : j + 1 = i
    · exact Or.inr (fun z => h3 ⟨q, this.mp z⟩)
    · exact Or.inl q
/-! the heap -/
def zNF (t : Nat) : Nat := match t with
  | 0 => 5 | 1 => 3 | 2 => 2 | 3 => 5 | 4 => 8 | 5 => 5 | 6 => 4 | 7 => 3 | 8 => 5 | 9 => 1 | 10 => 12 | _ => 43
def zTy (t : Nat) : Nat → FieldType := match t with
  | 0 => tyX0 | 1 => tyX1 | 2 => tyX2 | 3 => tyX3 | 4 => tyX4 | 5 => tyX5 | 6 => tyX6 | 7 => tyX7 | 8 => tyX8 | 9 => tyX9 | 10 => tyX10 | _ => tyX11
def zisI (ty : FieldType) : Bool := match ty with
  | .int => true
  | .boolean => true
  | _ => false
def zfv (b B : Nat) (h : zH) (a j : Nat) : Value := if zisI (zTy (zk h a).1 j) = true then .int (zi h a j) else va_rf ((zr h a j).map (zadr b B))
def zcell (b B : Nat) (cA : Nat → ClassId) (h : zH) (a : Nat) : va_E := if (zk h a).1 < 12 then .inr ((zk h a).1, (List.range (zNF (zk h a).1)).map (zfv b B h a)) else if (zk h a).1 = 12 then .inl (cA 0, (zk h a).2, .inl (zi h a)) else .inl (cA ((zk h a).1 - 12), (zk h a).2, .inr (.inr (.inr (.inr (fun j => (zr h a j).map (zadr b B))))))
def zws (b B : Nat) (cA : Nat → ClassId) (h : zH) : va_W := (List.range (zn h - 1)).map fun k => (B + k, zcell b B cA h (k + 1))
def zRep (b B L : Nat) (xs : Nat → Int32) (dC : Nat → ClassId) (dI : Nat → Nat → Nat) (cA : Nat → ClassId) (h : zH) (H : Heap) : Prop :=
  va_P (dC, dI) vwCl (zws b B cA h) H ∧ H.size + 1 = B + zn h ∧ 1 ≤ zn h ∧ (∀ a, zn h ≤ a → (zk h a).1 = 99) ∧ (∀ a, 1 ≤ a → a < zn h → (zk h a).1 < 16) ∧ zk h 0 = (16, L) ∧ ∀ j, j < L → zi h 0 j = xs j
section ZREP
variable {b B L : Nat} {xs : Nat → Int32} {dC : Nat → ClassId} {dI : Nat → Nat → Nat} {cA : Nat → ClassId} {h h' : zH} {H H' : Heap}
theorem zRep.in (r : zRep b B L xs dC dI cA h H) {a : Nat} (ha : (zk h a).1 < 16) : 1 ≤ a ∧ a < zn h := by
  obtain ⟨-, -, h1, h2, -, h4, -⟩ := r
  refine ⟨?_, ?_⟩
  · rcases Nat.eq_zero_or_pos a with q | q
    · subst q
      rw [h4] at ha
      exact absurd ha (by simp)
    · exact q
  · rcases Nat.lt_or_ge a (zn h) with q | q
    · exact q
    · rw [h2 a q] at ha
      exact absurd ha (by simp)
theorem zadr_pos {b B a : Nat} (h : 1 ≤ a) : zadr b B a = B + (a - 1) := by
  unfold zadr
  rw [if_neg (by omega)]
theorem zws_get (b B : Nat) (cA : Nat → ClassId) (h : zH) {a : Nat} (h1 : 1 ≤ a) (h2 : a < zn h) : (zws b B cA h)[a - 1]? = some (zadr b B a, zcell b B cA h a) := by
  unfold zws
  rw [List.getElem?_map, List.getElem?_range (by omega)]
  show some (B + (a - 1), zcell b B cA h (a - 1 + 1)) = _
  rw [zadr_pos h1, Nat.sub_add_cancel h1]
theorem zws_D (b B : Nat) (cA : Nat → ClassId) (h : zH) : va_D (fun q => B ≤ q) (zws b B cA h) := by
  have key : ∀ (i : Nat) (p : Nat × va_E), (zws b B cA h)[i]? = some p → p.1 = B + i := by
    intro i p hp
    have hl : i < zn h - 1 := by
      have := (List.getElem?_eq_some_iff.mp hp).1
      simpa [zws] using this
    rw [zws, List.getElem?_map, List.getElem?_range hl] at hp
    cases hp
    rfl
  refine ⟨fun i j p q hi hj hpq => ?_, fun k q hk => ?_⟩
  · rw [key i p hi, key j q hj] at hpq
    omega
  · rw [key k q hk]
    exact Nat.le_add_right _ _
theorem zws_set {a : Nat} (h1 : 1 ≤ a) (h2 : a < zn h) (hn : zn h' = zn h) (ho : ∀ x, x ≠ a → zcell b B cA h' x = zcell b B cA h x) : (zws b B cA h).set (a - 1) (zadr b B a, zcell b B cA h' a) = zws b B cA h' := by
  apply List.ext_getElem?
  intro i
  have hlen : (zws b B cA h).length = zn h - 1 := by simp [zws]
  by_cases hi : i = a - 1
  · subst hi
    rw [List.getElem?_set_self (by rw [hlen]; omega), zws_get b B cA h' h1 (by omega)]
  · rw [List.getElem?_set_ne (Ne.symm hi)]
    unfold zws
    rw [hn, List.getElem?_map, List.getElem?_map]
    by_cases hl : i < zn h - 1
    · rw [List.getElem?_range hl]
      show some (B + i, zcell b B cA h (i + 1)) = some (B + i, zcell b B cA h' (i + 1))
      rw [ho (i + 1) (by omega)]
    · rw [List.getElem?_eq_none (by simp; omega)]
      rfl
theorem zRep.put (r : zRep b B L xs dC dI cA h H) {a : Nat} (ha : (zk h a).1 < 16) (hn : zn h' = zn h) (hk : ∀ x, zk h' x = zk h x) (ho : ∀ x, x ≠ a → zcell b B cA h' x = zcell b B cA h x) (h0 : ∀ j, zi h' 0 j = zi h 0 j) (hz : H'.size = H.size)
    (hP : va_P (dC, dI) vwCl ((zws b B cA h).set (a - 1) (zadr b B a, zcell b B cA h' a)) H') : zRep b B L xs dC dI cA h' H' := by
  obtain ⟨h1, h2⟩ := r.in ha
  rw [zws_set h1 h2 hn ho] at hP
  obtain ⟨-, r2, r3, r4, r5, r6, r7⟩ := r
  refine ⟨hP, by rw [hz, hn]; exact r2, by rw [hn]; exact r3, fun x hx => ?_, fun x hx hx2 => ?_, by rw [hk]; exact r6, fun j hj => by rw [h0]; exact r7 j hj⟩
  · rw [hk]; exact r4 x (by rw [← hn]; exact hx)
  · rw [hk]; exact r5 x hx (by rw [← hn]; exact hx2)
end ZREP
theorem zk_wI (h : zH) (a j : Nat) (v : Int32) (x : Nat) : zk (zwI h a j v) x = zk h x := rfl
theorem zr_wI (h : zH) (a j : Nat) (v : Int32) (x y : Nat) : zr (zwI h a j v) x y = zr h x y := rfl
theorem zi_wI (h : zH) (a j : Nat) (v : Int32) (x y : Nat) : zi (zwI h a j v) x y = if x = a ∧ y = j then v else zi h x y := rfl
theorem zn_wI (h : zH) (a j : Nat) (v : Int32) : zn (zwI h a j v) = zn h := rfl
theorem zu_wI (h : zH) (a j : Nat) (v : Int32) : zu (zwI h a j v) = zu h := rfl
theorem zk_wR (h : zH) (a j : Nat) (v : Option Nat) (x : Nat) : zk (zwR h a j v) x = zk h x := rfl
theorem zi_wR (h : zH) (a j : Nat) (v : Option Nat) (x y : Nat) : zi (zwR h a j v) x y = zi h x y := rfl
theorem zr_wR (h : zH) (a j : Nat) (v : Option Nat) (x y : Nat) : zr (zwR h a j v) x y = if x = a ∧ y = j then v else zr h x y := rfl
theorem zn_wR (h : zH) (a j : Nat) (v : Option Nat) : zn (zwR h a j v) = zn h := rfl
theorem zu_wR (h : zH) (a j : Nat) (v : Option Nat) : zu (zwR h a j v) = zu h := rfl
theorem zk_wC (h : zH) (a sp b dp n x : Nat) : zk (zwC h a sp b dp n) x = zk h x := rfl
theorem zr_wC (h : zH) (a sp b dp n x y : Nat) : zr (zwC h a sp b dp n) x y = zr h x y := rfl
theorem zi_wC (h : zH) (a sp b dp n x y : Nat) : zi (zwC h a sp b dp n) x y = if x = b ∧ dp ≤ y ∧ y < dp + n then zi h a (sp + (y - dp)) else zi h x y := rfl
theorem zn_wC (h : zH) (a sp b dp n : Nat) : zn (zwC h a sp b dp n) = zn h := rfl
theorem zu_wC (h : zH) (a sp b dp n : Nat) : zu (zwC h a sp b dp n) = zu h := rfl
theorem zk_N (h : zH) (t n N x : Nat) : zk (zN h t n N) x = if x = zn h then (t, n) else zk h x := rfl
theorem zi_N (h : zH) (t n N x y : Nat) : zi (zN h t n N) x y = if x = zn h then 0 else zi h x y := rfl
theorem zr_N (h : zH) (t n N x y : Nat) : zr (zN h t n N) x y = if x = zn h then none else zr h x y := rfl
theorem zn_N (h : zH) (t n N : Nat) : zn (zN h t n N) = zn h + 1 := rfl
theorem zu_N (h : zH) (t n N : Nat) : zu (zN h t n N) = zu h + N := rfl
end
section
/-! what every frame stands on -/
def zGood : List Cond := lw_tbl.filter goodWord
def ztys (cA : Nat → ClassId) : List (ClassId × FieldType) := [(cA 0, .int), (cA 1, .object "CorpseTales$Tale"), (cA 2, .object "CorpseTales$Night"), (cA 3, .object "CorpseTales$Sheet")]
def znest (w : Cond) : Bool := match w with
  | .methodLinkNest _ _ _ _ => true
  | .castable _ _ => true
  | .arrayOver (.object _) => true
  | _ => false
def zK (dC : Nat → ClassId) (dI : Nat → Nat → Nat) (cA : Nat → ClassId) (U : State) : Prop := va_K (dC, dI) vwCl (ztys cA) U ∧ (∀ w ∈ lw_tbl, znest w = true → va_Nw w U) ∧ va_Nc RX8 RX5 U ∧ va_Nc RX8 RX0 U ∧ va_Nc RX0 RX5 U
theorem zK.moved {dC : Nat → ClassId} {dI : Nat → Nat → Nat} {cA : Nat → ClassId} {s U : State} (hW : s.WarmedH U.vm) (h : zK dC dI cA s) : zK dC dI cA U := by
  obtain ⟨h1, h2, h3, h4, h5⟩ := h
  refine ⟨h1.moved hW.alike, fun w hw hn => ?_, h3.moved hW.alike, h4.moved hW.alike, h5.moved hW.alike⟩
  have hz := h2 w hw hn
  cases w <;> simp [znest] at hn
  case methodLinkNest => exact hz.warmM hW
  case castable => exact hz.warmC hW
  case arrayOver t =>
    cases t <;> simp at hn
    exact va_AO.moved hW.alike hz
def zF (t : Nat) : u_T := match t with
  | 0 => TX0 | 1 => TX1 | 2 => TX2 | 3 => TX3 | 4 => TX4 | 5 => TX5 | 6 => TX6 | 7 => TX7 | 8 => TX8 | 9 => TX9 | 10 => TX10 | _ => TX11
def zC (t : Nat) : String := match t with
  | 0 => RX0 | 1 => RX1 | 2 => RX2 | 3 => RX3 | 4 => RX4 | 5 => RX5 | 6 => RX6 | 7 => RX7 | 8 => RX8 | 9 => RX9 | 10 => RX10 | _ => RX11
theorem zcases {P : Nat → Prop} (h0 : P 0) (h1 : P 1) (h2 : P 2) (h3 : P 3) (h4 : P 4) (h5 : P 5) (h6 : P 6) (h7 : P 7) (h8 : P 8) (h9 : P 9) (h10 : P 10) (h11 : P 11) : ∀ t, t < 12 → P t := by
  intro t ht
  match t, ht with
  | 0, _ => exact h0
  | 1, _ => exact h1
  | 2, _ => exact h2
  | 3, _ => exact h3
  | 4, _ => exact h4
  | 5, _ => exact h5
  | 6, _ => exact h6
  | 7, _ => exact h7
  | 8, _ => exact h8
  | 9, _ => exact h9
  | 10, _ => exact h10
  | 11, _ => exact h11
theorem zcl_at : ∀ t, t < 12 → vwCl[t]? = some (zC t, zF t, zNF t) := zcases rfl rfl rfl rfl rfl rfl rfl rfl rfl rfl rfl rfl
theorem zin_at : ∀ t, t < 12 → ∀ w ∈ u_ws (zC t) (zF t) (zNF t), w ∈ zGood := zcases (by decide +kernel) (by decide +kernel) (by decide +kernel) (by decide +kernel) (by decide +kernel) (by decide +kernel) (by decide +kernel) (by decide +kernel) (by decide +kernel) (by decide +kernel) (by decide +kernel) (by decide +kernel)
theorem zty_at : ∀ t, t < 12 → ∀ k, k < zNF t → parseFieldDescriptor (zF t k).2.2.1 = some (zTy t k) := zcases tyX0_ok tyX1_ok tyX2_ok tyX3_ok tyX4_ok tyX5_ok tyX6_ok tyX7_ok tyX8_ok tyX9_ok tyX10_ok tyX11_ok
theorem znm_at : ∀ t, t < 12 → ∀ a, a < zNF t → ∀ b, b < zNF t → a ≠ b → (zF t a).2.1 ≠ (zF t b).2.1 := zcases nmX0 nmX1 nmX2 nmX3 nmX4 nmX5 nmX6 nmX7 nmX8 nmX9 nmX10 nmX11
def zCx (p : Program) (s : State) (m : MethodId) (args : Array Value) (meth : Method) (c : Code) (cc : ByteArray) (own nm : String) (nL b B L : Nat) (xs : Nat → Int32) (dC : Nat → ClassId) (dI : Nat → Nat → Nat) (cA : Nat → ClassId) : Prop :=
  p.tables.exec = Jvm.exec ∧ c.code = cc ∧ c.maxLocals = nL ∧ s.vm.findClass own = some m.cls ∧ (∀ w ∈ zGood, w.before args s = true) ∧ zK dC dI cA s ∧ va_X b L xs s s.heap ∧ b < B ∧ B ≤ s.heap.size ∧ meth.locks = false ∧ meth.name = nm
def zWA (p : Program) (l : Launch) (e : Env) (R : Room) (s : State) (m : MethodId) (args : Array Value) (below : List Frame) (meth : Method) (c : Code) (Q : State → Prop) (b B L : Nat) (xs : Nat → Int32) (dC : Nat → ClassId) (dI : Nat → Nat → Nat) (cA : Nat → ClassId) (n0 u0 nL : Nat) (x : zS) : Prop :=
  ∀ (H : Heap) (locs : List Loc) (la : Array Slot), zRep b B L xs dC dI cA x.2.2.2 H → va_S (fun q => B ≤ q) s.heap H locs → zLV b B la nL x.2.1 → W p l e R s m args below meth c H locs (zn x.2.2.2 - n0) (zu x.2.2.2 - u0) Q (F0 m x.1 la (x.2.2.1.map (ztr b B)))
section ZOPS
variable {p : Program} {l : Launch} {e : Env} {R : Room} {s : State} {m : MethodId} {args : Array Value} {below : List Frame} {meth : Method} {c : Code} {Q : State → Prop} {cc : ByteArray} {own nm : String} {nL b B L n0 u0 : Nat} {xs : Nat → Int32} {dC : Nat → ClassId} {dI : Nat → Nat → Nat} {cA : Nat → ClassId}
variable {pc : Nat} {ls : zL} {st : List zV} {h : zH} {y : zS}
/-- steps that leave the heap and the locals as they are -/
theorem zs_push {v : zV} {k : Nat} (hs : zpush k pc ls st h v = some (.inr y)) (hr : ∀ (H : Heap) (locs : List Loc) (la : Array Slot) (ce sl : Nat) (r : List Value), W p l e R s m args below meth c H locs ce sl Q (F0 m (pc + k) la (ztr b B v :: r)) → W p l e R s m args below meth c H locs ce sl Q (F0 m pc la r))
    (hW : zWA p l e R s m args below meth c Q b B L xs dC dI cA n0 u0 nL y) : zWA p l e R s m args below meth c Q b B L xs dC dI cA n0 u0 nL (pc, ls, st, h) := by
  simp only [zpush, Option.some.injEq, Sum.inr.injEq] at hs
  subst hs
  intro H locs la hR hS hl
  exact hr _ _ _ _ _ _ (hW H locs la hR hS hl)
theorem zs_op2 {f : Int32 → Int32 → Option Int32} (hs : zop2 f pc ls st h = some (.inr y)) (hr : ∀ (u v w : Int32), f u v = some w → ∀ (H : Heap) (locs : List Loc) (la : Array Slot) (ce sl : Nat) (r : List Value), W p l e R s m args below meth c H locs ce sl Q (F0 m (pc + 1) la (.int w :: r)) → W p l e R s m args below meth c H locs ce sl Q (F0 m pc la (.int v :: .int u :: r)))
    (hW : zWA p l e R s m args below meth c Q b B L xs dC dI cA n0 u0 nL y) : zWA p l e R s m args below meth c Q b B L xs dC dI cA n0 u0 nL (pc, ls, st, h) := by
  unfold zop2 at hs
  split at hs
  · rename_i v u r
    cases hf : f u v with
    | none => rw [hf] at hs; cases hs
    | some w =>
      rw [hf] at hs
      simp only [Option.bind_some, zgo, Option.some.injEq, Sum.inr.injEq] at hs
      subst hs
      intro H locs la hR hS hl
      exact hr u v w hf _ _ _ _ _ _ (hW H locs la hR hS hl)
  · cases hs
theorem zs_op2l {f : Int64 → Int64 → Option Int64} (hs : zop2l f pc ls st h = some (.inr y)) (hr : ∀ (u v w : Int64), f u v = some w → ∀ (H : Heap) (locs : List Loc) (la : Array Slot) (ce sl : Nat) (r : List Value), W p l e R s m args below meth c H locs ce sl Q (F0 m (pc + 1) la (.long w :: r)) → W p l e R s m args below meth c H locs ce sl Q (F0 m pc la (.long v :: .long u :: r)))
    (hW : zWA p l e R s m args below meth c Q b B L xs dC dI cA n0 u0 nL y) : zWA p l e R s m args below meth c Q b B L xs dC dI cA n0 u0 nL (pc, ls, st, h) := by
  unfold zop2l at hs
  split at hs
  · rename_i v u r
    cases hf : f u v with
    | none => rw [hf] at hs; cases hs
    | some w =>
      rw [hf] at hs
      simp only [Option.bind_some, zgo, Option.some.injEq, Sum.inr.injEq] at hs
      subst hs
      intro H locs la hR hS hl
      exact hr u v w hf _ _ _ _ _ _ (hW H locs la hR hS hl)
  · cases hs
theorem zs_op1 {f : Int32 → zV} (hs : zop1 f pc ls st h = some (.inr y)) (hr : ∀ (u : Int32) (H : Heap) (locs : List Loc) (la : Array Slot) (ce sl : Nat) (r : List Value), W p l e R s m args below meth c H locs ce sl Q (F0 m (pc + 1) la (ztr b B (f u) :: r)) → W p l e R s m args below meth c H locs ce sl Q (F0 m pc la (.int u :: r)))
    (hW : zWA p l e R s m args below meth c Q b B L xs dC dI cA n0 u0 nL y) : zWA p l e R s m args below meth c Q b B L xs dC dI cA n0 u0 nL (pc, ls, st, h) := by
  unfold zop1 at hs
  split at hs
  · rename_i u r
    simp only [zgo, Option.some.injEq, Sum.inr.injEq] at hs
    subst hs
    intro H locs la hR hS hl
    exact hr u _ _ _ _ _ _ (hW H locs la hR hS hl)
  · cases hs
theorem zs_lcmp (hx : p.tables.exec = Jvm.exec) (hb : c.code = cc) (hdg : decode cc pc = .ok (.lcmp, 1)) (hs : zlcmp pc ls st h = some (.inr y))
    (hW : zWA p l e R s m args below meth c Q b B L xs dC dI cA n0 u0 nL y) : zWA p l e R s m args below meth c Q b B L xs dC dI cA n0 u0 nL (pc, ls, st, h) := by
  unfold zlcmp at hs
  split at hs
  · simp only [zgo, Option.some.injEq, Sum.inr.injEq] at hs
    subst hs
    intro H locs la hR hS hl
    exact W.lcmp hx hb hdg (hW H locs la hR hS hl)
  · cases hs
theorem zs_dup (hx : p.tables.exec = Jvm.exec) (hb : c.code = cc) (hdg : decode cc pc = .ok (.dup, 1)) (hs : zdup pc ls st h = some (.inr y))
    (hW : zWA p l e R s m args below meth c Q b B L xs dC dI cA n0 u0 nL y) : zWA p l e R s m args below meth c Q b B L xs dC dI cA n0 u0 nL (pc, ls, st, h) := by
  unfold zdup at hs
  split at hs
  · rename_i v r
    split at hs
    · rename_i hv
      simp only [zgo, Option.some.injEq, Sum.inr.injEq] at hs
      subst hs
      intro H locs la hR hS hl
      refine lv_dup hx hb hdg ?_ (hW H locs la hR hS hl)
      rcases lv_cat (ztr b B v) with q | q
      · exact q
      · rw [(ztr_cat b B v).mp q] at hv
        cases hv
    · cases hs
  · cases hs
theorem zs_pop (hx : p.tables.exec = Jvm.exec) (hb : c.code = cc) (hdg : decode cc pc = .ok (.pop, 1)) (hs : zpop pc ls st h = some (.inr y))
    (hW : zWA p l e R s m args below meth c Q b B L xs dC dI cA n0 u0 nL y) : zWA p l e R s m args below meth c Q b B L xs dC dI cA n0 u0 nL (pc, ls, st, h) := by
  unfold zpop at hs
  split at hs
  · rename_i v r
    split at hs
    · rename_i hv
      simp only [zgo, Option.some.injEq, Sum.inr.injEq] at hs
      subst hs
      intro H locs la hR hS hl
      refine lv_pop hx hb hdg ?_ (hW H locs la hR hS hl)
      rcases lv_cat (ztr b B v) with q | q
      · exact q
      · rw [(ztr_cat b B v).mp q] at hv
        cases hv
    · cases hs
  · cases hs
theorem zs_dup2 (hx : p.tables.exec = Jvm.exec) (hb : c.code = cc) (hdg : decode cc pc = .ok (.dup2, 1)) (hs : zdup2 pc ls st h = some (.inr y))
    (hW : zWA p l e R s m args below meth c Q b B L xs dC dI cA n0 u0 nL y) : zWA p l e R s m args below meth c Q b B L xs dC dI cA n0 u0 nL (pc, ls, st, h) := by
  unfold zdup2 at hs
  split at hs
  · rename_i v w r
    split at hs
    · rename_i hv
      simp only [zgo, Option.some.injEq, Sum.inr.injEq] at hs
      subst hs
      intro H locs la hR hS hl
      refine lv_dup2_11 hx hb hdg ?_ ?_ (hW H locs la hR hS hl)
      · rcases lv_cat (ztr b B v) with q | q
        · exact q
        · rw [(ztr_cat b B v).mp q] at hv
          exact absurd hv.1 (by decide)
      · rcases lv_cat (ztr b B w) with q | q
        · exact q
        · rw [(ztr_cat b B w).mp q] at hv
          exact absurd hv.2 (by decide)
    · cases hs
  · cases hs
/-- jumps -/
theorem zs_goto (hx : p.tables.exec = Jvm.exec) (hb : c.code = cc) {off : Int} (hdg : decode cc pc = .ok (.goto off, 3)) (ht : (pc : Int) + off = (ztg pc off : Int)) (hs : zgo (ztg pc off) ls st h = some (.inr y))
    (hW : zWA p l e R s m args below meth c Q b B L xs dC dI cA n0 u0 nL y) : zWA p l e R s m args below meth c Q b B L xs dC dI cA n0 u0 nL (pc, ls, st, h) := by
  simp only [zgo, Option.some.injEq, Sum.inr.injEq] at hs
  subst hs
  intro H locs la hR hS hl
  exact lv_goto hx hb hdg ht (hW H locs la hR hS hl)
theorem zs_jump (hx : p.tables.exec = Jvm.exec) (hb : c.code = cc) {cd : ClassFile.Cond} {off : Int} (hdg : decode cc pc = .ok (.ifCond cd off, 3)) (ht : (pc : Int) + off = (ztg pc off : Int)) (hs : zjump cd off pc ls st h = some (.inr y))
    (hW : zWA p l e R s m args below meth c Q b B L xs dC dI cA n0 u0 nL y) : zWA p l e R s m args below meth c Q b B L xs dC dI cA n0 u0 nL (pc, ls, st, h) := by
  unfold zjump at hs
  split at hs
  · rename_i v r
    intro H locs la hR hS hl
    show W _ _ _ _ _ _ _ _ _ _ _ _ _ _ _ (F0 m pc la (.int v :: r.map (ztr b B)))
    split at hs <;> rename_i hv <;> simp only [zgo, Option.some.injEq, Sum.inr.injEq] at hs <;> subst hs <;> have K := hW H locs la hR hS hl <;> cases cd <;> simp [zcond] at hv
    · exact lv_if_eq hx hb hdg ht (fun _ => K) (fun q => absurd hv q)
    · exact lv_if_ne hx hb hdg ht (fun _ => K) (fun q => absurd q hv)
    · exact lv_if_lt hx hb hdg ht (fun _ => K) (fun q => absurd hv (by simpa using q))
    · exact lv_if_ge hx hb hdg ht (fun _ => K) (fun q => absurd hv (by simpa using q))
    · exact lv_if_gt hx hb hdg ht (fun _ => K) (fun q => absurd hv (by simpa using q))
    · exact lv_if_le hx hb hdg ht (fun _ => K) (fun q => absurd hv (by simpa using q))
    · exact lv_if_eq hx hb hdg ht (fun q => absurd q hv) (fun _ => K)
    · exact lv_if_ne hx hb hdg ht (fun q => absurd hv q) (fun _ => K)
    · exact lv_if_lt hx hb hdg ht (fun q => absurd q (by simpa using hv)) (fun _ => K)
    · exact lv_if_ge hx hb hdg ht (fun q => absurd q (by simpa using hv)) (fun _ => K)
    · exact lv_if_gt hx hb hdg ht (fun q => absurd q (by simpa using hv)) (fun _ => K)
    · exact lv_if_le hx hb hdg ht (fun q => absurd q (by simpa using hv)) (fun _ => K)
  · cases hs
theorem zs_jump2 (hx : p.tables.exec = Jvm.exec) (hb : c.code = cc) {cd : ClassFile.Cond} {off : Int} (hdg : decode cc pc = .ok (.if_icmp cd off, 3)) (ht : (pc : Int) + off = (ztg pc off : Int)) (hs : zjump2 cd off pc ls st h = some (.inr y))
    (hW : zWA p l e R s m args below meth c Q b B L xs dC dI cA n0 u0 nL y) : zWA p l e R s m args below meth c Q b B L xs dC dI cA n0 u0 nL (pc, ls, st, h) := by
  unfold zjump2 at hs
  split at hs
  · rename_i w v r
    intro H locs la hR hS hl
    show W _ _ _ _ _ _ _ _ _ _ _ _ _ _ _ (F0 m pc la (.int w :: .int v :: r.map (ztr b B)))
    split at hs <;> rename_i hv <;> simp only [zgo, Option.some.injEq, Sum.inr.injEq] at hs <;> subst hs <;> have K := hW H locs la hR hS hl <;> cases cd <;> simp [zcond] at hv
    · exact lv_icmp_eq hx hb hdg ht (fun _ => K) (fun q => absurd hv q)
    · exact lv_icmp_ne hx hb hdg ht (fun _ => K) (fun q => absurd q hv)
    · exact lv_icmp_lt hx hb hdg ht (fun _ => K) (fun q => absurd hv (by simpa using q))
    · exact lv_icmp_ge hx hb hdg ht (fun _ => K) (fun q => absurd hv (by simpa using q))
    · exact lv_icmp_gt hx hb hdg ht (fun _ => K) (fun q => absurd hv (by simpa using q))
    · exact lv_icmp_le hx hb hdg ht (fun _ => K) (fun q => absurd hv (by simpa using q))
    · exact lv_icmp_eq hx hb hdg ht (fun q => absurd q hv) (fun _ => K)
    · exact lv_icmp_ne hx hb hdg ht (fun q => absurd hv q) (fun _ => K)
    · exact lv_icmp_lt hx hb hdg ht (fun q => absurd q (by simpa using hv)) (fun _ => K)
    · exact lv_icmp_ge hx hb hdg ht (fun q => absurd q (by simpa using hv)) (fun _ => K)
    · exact lv_icmp_gt hx hb hdg ht (fun q => absurd q (by simpa using hv)) (fun _ => K)
    · exact lv_icmp_le hx hb hdg ht (fun q => absurd q (by simpa using hv)) (fun _ => K)
  · cases hs
theorem zs_null (hx : p.tables.exec = Jvm.exec) (hb : c.code = cc) {off : Int} (hdg : decode cc pc = .ok (.ifnull off, 3)) (ht : (pc : Int) + off = (ztg pc off : Int)) (hs : zjumpN true off pc ls st h = some (.inr y))
    (hW : zWA p l e R s m args below meth c Q b B L xs dC dI cA n0 u0 nL y) : zWA p l e R s m args below meth c Q b B L xs dC dI cA n0 u0 nL (pc, ls, st, h) := by
  unfold zjumpN at hs
  split at hs
  · rename_i q r
    intro H locs la hR hS hl
    cases q with
    | none =>
      simp [zgo] at hs
      subst hs
      exact lv_ifnullN hx hb hdg ht (hW H locs la hR hS hl)
    | some q =>
      simp [zgo] at hs
      subst hs
      exact lv_ifnull hx hb hdg (hW H locs la hR hS hl)
  · cases hs
theorem zs_nonnull (hx : p.tables.exec = Jvm.exec) (hb : c.code = cc) {off : Int} (hdg : decode cc pc = .ok (.ifnonnull off, 3)) (ht : (pc : Int) + off = (ztg pc off : Int)) (hs : zjumpN false off pc ls st h = some (.inr y))
    (hW : zWA p l e R s m args below meth c Q b B L xs dC dI cA n0 u0 nL y) : zWA p l e R s m args below meth c Q b B L xs dC dI cA n0 u0 nL (pc, ls, st, h) := by
  unfold zjumpN at hs
  split at hs
  · rename_i q r
    intro H locs la hR hS hl
    cases q with
    | none =>
      simp [zgo] at hs
      subst hs
      exact lv_ifnonnullN hx hb hdg (hW H locs la hR hS hl)
    | some q =>
      simp [zgo] at hs
      subst hs
      exact lv_ifnonnull hx hb hdg ht (hW H locs la hR hS hl)
  · cases hs
theorem zs_tab (hx : p.tables.exec = Jvm.exec) (hb : c.code = cc) {d lo hi : Int} {offs : Array Int} {len : Nat} (hdg : decode cc pc = .ok (.tableswitch d lo hi offs, len)) (ht : (pc : Int) + d = (ztg pc d : Int)) (ht2 : ∀ off ∈ offs, (pc : Int) + off = (ztg pc off : Int)) (hs : ztab d lo hi offs pc ls st h = some (.inr y))
    (hW : zWA p l e R s m args below meth c Q b B L xs dC dI cA n0 u0 nL y) : zWA p l e R s m args below meth c Q b B L xs dC dI cA n0 u0 nL (pc, ls, st, h) := by
  unfold ztab at hs
  split at hs
  · rename_i v r
    intro H locs la hR hS hl
    show W _ _ _ _ _ _ _ _ _ _ _ _ _ _ _ (F0 m pc la (.int v :: r.map (ztr b B)))
    split at hs
    · rename_i hv
      simp only [zgo, Option.some.injEq, Sum.inr.injEq] at hs
      subst hs
      exact lv_tableOut hx hb hdg hv ht (hW H locs la hR hS hl)
    · rename_i hv
      cases ho : offs[(v.toInt - lo).toNat]? with
      | none => rw [ho] at hs; cases hs
      | some off =>
        rw [ho] at hs
        simp only [Option.bind_some, zgo, Option.some.injEq, Sum.inr.injEq] at hs
        subst hs
        exact lv_tableIn hx hb hdg (fun q => hv (Or.inl q)) (fun q => hv (Or.inr q)) ho (ht2 off (Array.mem_of_getElem? ho)) (hW H locs la hR hS hl)
  · cases hs
theorem zs_look (hx : p.tables.exec = Jvm.exec) (hb : c.code = cc) {d : Int} {ps : Array (Int × Int)} {len : Nat} (hdg : decode cc pc = .ok (.lookupswitch d ps, len)) (hp : (ps.toList.zip (ps.toList.drop 1)).all (fun (a, next) => a.1 < next.1) = true) (ht : ∀ z : Int, (pc : Int) + Op.lookupswitch.offset ps.toList d z = (ztg pc (Op.lookupswitch.offset ps.toList d z) : Int)) (hs : zlook d ps pc ls st h = some (.inr y))
    (hW : zWA p l e R s m args below meth c Q b B L xs dC dI cA n0 u0 nL y) : zWA p l e R s m args below meth c Q b B L xs dC dI cA n0 u0 nL (pc, ls, st, h) := by
  unfold zlook at hs
  split at hs
  · rename_i v r
    simp only [zgo, Option.some.injEq, Sum.inr.injEq] at hs
    subst hs
    intro H locs la hR hS hl
    exact lv_lookup hx hb hdg hp rfl (ht _) (hW H locs la hR hS hl)
  · cases hs
end ZOPS
end
section
/-! steps that read and write locals and cells -/
theorem zfind_mem : ∀ {tab : List (Nat × Nat × Nat × String × String)} {t k : Nat}, zfind tab t = some k → ∃ q ∈ tab, q.1 = t ∧ q.2.1 = k
  | [], t, k, h => by simp [zfind] at h
  | q :: l, t, k, h => by
    unfold zfind at h
    split at h
    · rename_i hq
      exact ⟨q, List.mem_cons_self, hq, Option.some.inj h⟩
    · obtain ⟨r, h1, h2⟩ := zfind_mem h
      exact ⟨r, List.mem_cons_of_mem _ h1, h2⟩
theorem zS_self {A : Nat → Prop} {H0 H : Heap} {locs : List Loc} (h : va_S A H0 H locs) : va_S A H H locs := ⟨Nat.le_refl _, fun _ _ _ => rfl, h.2.2⟩
theorem zS_trans {A : Nat → Prop} {H0 H H1 : Heap} {locs locs1 : List Loc} (h : va_S A H0 H locs) (h2 : va_S A H H1 locs1) : va_S A H0 H1 locs1 :=
  ⟨Nat.le_trans h.1 h2.1, fun q hq ha => (h2.2.1 q (Nat.lt_of_lt_of_le hq h.1) ha).trans (h.2.1 q hq ha), h2.2.2⟩
theorem zix_some {i : Int32} {n j : Nat} (h : zix i n = some j) : vp_in i n ∧ i.toNatClampNeg = j := by
  unfold zix at h
  split at h
  · cases h
  · rename_i q
    exact ⟨q, Option.some.inj h⟩
/-- a field's words -/
def zFo (own : String) (i t k : Nat) : Prop := t < 12 ∧ k < zNF t ∧ ∃ ref, Cond.fieldLink own i ref (zF t k).2.1 (zF t k).2.2.1 ∈ zGood ∧ (ref = (zF t k).1 ∨ Cond.sameField ref (zF t k).1 (zF t k).2.1 (zF t k).2.2.1 ∈ zGood)
theorem zfv_get {b B : Nat} {h : zH} {a N k : Nat} (hk : k < N) : ((List.range N).map (zfv b B h a))[k]? = some (zfv b B h a k) := by
  rw [List.getElem?_map, List.getElem?_range hk]
  rfl
theorem zcell_obj {b B : Nat} {cA : Nat → ClassId} {h : zH} {a : Nat} (ht : (zk h a).1 < 12) : zcell b B cA h a = .inr ((zk h a).1, (List.range (zNF (zk h a).1)).map (zfv b B h a)) := by
  unfold zcell
  rw [if_pos ht]
theorem zcell_ints {b B : Nat} {cA : Nat → ClassId} {h : zH} {a : Nat} (ht : (zk h a).1 = 12) : zcell b B cA h a = .inl (cA 0, (zk h a).2, .inl (zi h a)) := by
  unfold zcell
  rw [if_neg (by omega), if_pos ht]
theorem zcell_refs {b B : Nat} {cA : Nat → ClassId} {h : zH} {a : Nat} (ht : 12 < (zk h a).1) : zcell b B cA h a = .inl (cA ((zk h a).1 - 12), (zk h a).2, .inr (.inr (.inr (.inr (fun j => (zr h a j).map (zadr b B)))))) := by
  unfold zcell
  rw [if_neg (by omega), if_neg (by omega)]
section ZHOPS
variable {p : Program} {l : Launch} {e : Env} {R : Room} {s : State} {m : MethodId} {args : Array Value} {below : List Frame} {meth : Method} {c : Code} {Q : State → Prop} {cc : ByteArray} {own nm : String} {nL b B L n0 u0 : Nat} {xs : Nat → Int32} {dC : Nat → ClassId} {dI : Nat → Nat → Nat} {cA : Nat → ClassId}
variable {pc : Nat} {ls : zL} {st : List zV} {h : zH} {y : zS}
theorem zsize {H : Heap} {locs : List Loc} {ce sl : Nat} {g : JFrame} (k : H.size ≤ s.heap.size + ce → W p l e R s m args below meth c H locs ce sl Q g) : W p l e R s m args below meth c H locs ce sl Q g :=
  fun T hT X => k (by rw [← hT]; exact X.same.2.2.1) T hT X
theorem zs_load {w k i : Nat} (hs : zload w k i pc ls st h = some (.inr y))
    (h0 : w = 0 → ∀ (v : Int32) (H : Heap) (locs : List Loc) (la : Array Slot) (ce sl : Nat) (r : List Value), la[i]? = some (.val (.int v)) → W p l e R s m args below meth c H locs ce sl Q (F0 m (pc + k) la (.int v :: r)) → W p l e R s m args below meth c H locs ce sl Q (F0 m pc la r))
    (h1 : w = 1 → ∀ (v : Int64) (H : Heap) (locs : List Loc) (la : Array Slot) (ce sl : Nat) (r : List Value), la[i]? = some (.val (.long v)) → W p l e R s m args below meth c H locs ce sl Q (F0 m (pc + k) la (.long v :: r)) → W p l e R s m args below meth c H locs ce sl Q (F0 m pc la r))
    (h2 : w = 2 → ∀ (v : Option Nat) (H : Heap) (locs : List Loc) (la : Array Slot) (ce sl : Nat) (r : List Value), la[i]? = some (.val (va_rf v)) → W p l e R s m args below meth c H locs ce sl Q (F0 m (pc + k) la (va_rf v :: r)) → W p l e R s m args below meth c H locs ce sl Q (F0 m pc la r))
    (hW : zWA p l e R s m args below meth c Q b B L xs dC dI cA n0 u0 nL y) : zWA p l e R s m args below meth c Q b B L xs dC dI cA n0 u0 nL (pc, ls, st, h) := by
  unfold zload at hs
  split at hs
  · rename_i v hv
    simp only [zpush, Option.some.injEq, Sum.inr.injEq] at hs
    subst hs
    intro H locs la hR hS hl
    exact h0 rfl v _ _ _ _ _ _ (hl.2.2.2 i _ (zld_iff.mp hv)) (hW H locs la hR hS hl)
  · rename_i v hv
    simp only [zpush, Option.some.injEq, Sum.inr.injEq] at hs
    subst hs
    intro H locs la hR hS hl
    exact h1 rfl v _ _ _ _ _ _ (hl.2.2.2 i _ (zld_iff.mp hv)) (hW H locs la hR hS hl)
  · rename_i v hv
    simp only [zpush, Option.some.injEq, Sum.inr.injEq] at hs
    subst hs
    intro H locs la hR hS hl
    exact h2 rfl (v.map (zadr b B)) _ _ _ _ _ _ (hl.2.2.2 i _ (zld_iff.mp hv)) (hW H locs la hR hS hl)
  · cases hs
theorem zs_store {w k i : Nat} (hs : zstore w k i pc ls st h = some (.inr y))
    (h0 : w = 0 → ∀ (v : Int32) (H : Heap) (locs : List Loc) (la : Array Slot) (ce sl : Nat) (r : List Value) (lv : List (Nat × Value)), lv_has la nL lv → i < nL → (∀ la', lv_has la' nL ((i, Value.int v) :: lv.filter (fun q => !(q.1 == i) && !(q.1 + 1 == i && q.2.category == 2))) → W p l e R s m args below meth c H locs ce sl Q (F0 m (pc + k) la' r)) → W p l e R s m args below meth c H locs ce sl Q (F0 m pc la (.int v :: r)))
    (h1 : w = 1 → ∀ (v : Int64) (H : Heap) (locs : List Loc) (la : Array Slot) (ce sl : Nat) (r : List Value) (lv : List (Nat × Value)), lv_has la nL lv → i + 1 < nL → (∀ la', lv_has la' nL ((i, Value.long v) :: lv.filter (fun q => !(q.1 == i) && (!(q.1 == i + 1) && !(q.1 + 1 == i && q.2.category == 2)))) → W p l e R s m args below meth c H locs ce sl Q (F0 m (pc + k) la' r)) → W p l e R s m args below meth c H locs ce sl Q (F0 m pc la (.long v :: r)))
    (h2 : w = 2 → ∀ (v : Option Nat) (H : Heap) (locs : List Loc) (la : Array Slot) (ce sl : Nat) (r : List Value) (lv : List (Nat × Value)), lv_has la nL lv → i < nL → (∀ la', lv_has la' nL ((i, va_rf v) :: lv.filter (fun q => !(q.1 == i) && !(q.1 + 1 == i && q.2.category == 2))) → W p l e R s m args below meth c H locs ce sl Q (F0 m (pc + k) la' r)) → W p l e R s m args below meth c H locs ce sl Q (F0 m pc la (va_rf v :: r)))
    (hW : zWA p l e R s m args below meth c Q b B L xs dC dI cA n0 u0 nL y) : zWA p l e R s m args below meth c Q b B L xs dC dI cA n0 u0 nL (pc, ls, st, h) := by
  unfold zstore at hs
  split at hs
  · rename_i v r
    split at hs
    · rename_i hi
      simp only [zgo, Option.some.injEq, Sum.inr.injEq] at hs
      subst hs
      intro H locs la hR hS hl
      have hi : i < nL := by rw [← hl.2.2.1]; exact hi
      exact h0 rfl v _ _ _ _ _ _ _ hl.has hi (fun la' h' => hW H locs la' hR hS (zLV.st1 (v := .inl v) hl.2.2.1 hi h'))
    · cases hs
  · rename_i v r
    split at hs
    · rename_i hi
      simp only [zgo, Option.some.injEq, Sum.inr.injEq] at hs
      subst hs
      intro H locs la hR hS hl
      have hi : i + 1 < nL := by rw [← hl.2.2.1]; exact hi
      exact h1 rfl v _ _ _ _ _ _ _ hl.has hi (fun la' h' => hW H locs la' hR hS (zLV.st2 (v := .inr (.inl v)) hl.2.2.1 hi h'))
    · cases hs
  · rename_i v r
    split at hs
    · rename_i hi
      simp only [zgo, Option.some.injEq, Sum.inr.injEq] at hs
      subst hs
      intro H locs la hR hS hl
      have hi : i < nL := by rw [← hl.2.2.1]; exact hi
      exact h2 rfl (v.map (zadr b B)) _ _ _ _ _ _ _ hl.has hi (fun la' h' => hW H locs la' hR hS (zLV.st1 (v := .inr (.inr v)) hl.2.2.1 hi h'))
    · cases hs
  · cases hs
theorem zs_inc (hx : p.tables.exec = Jvm.exec) (hb : c.code = cc) {i : Nat} {n : Int} (hdg : decode cc pc = .ok (.iinc i n, 3)) (hs : zinc i n pc ls st h = some (.inr y))
    (hW : zWA p l e R s m args below meth c Q b B L xs dC dI cA n0 u0 nL y) : zWA p l e R s m args below meth c Q b B L xs dC dI cA n0 u0 nL (pc, ls, st, h) := by
  unfold zinc at hs
  split at hs
  · rename_i v hv
    split at hs
    · rename_i hi
      simp only [zgo, Option.some.injEq, Sum.inr.injEq] at hs
      subst hs
      intro H locs la hR hS hl
      have hi : i < nL := by rw [← hl.2.2.1]; exact hi
      obtain ⟨k, hk⟩ := List.getElem?_of_mem (zas_mem (b := b) (B := B) (zld_iff.mp hv))
      exact lv_iinc hx hb hdg hl.has hk rfl hi rfl (fun la' h' => hW H locs la' hR hS (zLV.st1 (v := .inl (v + Int32.ofInt n)) hl.2.2.1 hi h'))
    · cases hs
  · cases hs
theorem zs_get (C : zCx p s m args meth c cc own nm nL b B L xs dC dI cA) {o : zO} {idx : Nat} (hdg : decode cc pc = .ok (.getfield idx, 3)) (ho : ∀ q ∈ o.2.2.2, zFo own idx q.1 q.2.1 ∧ (o.2.2.1 = 2 ↔ zisI (zTy q.1 q.2.1) = false)) (hs : zget o pc ls st h = some (.inr y))
    (hW : zWA p l e R s m args below meth c Q b B L xs dC dI cA n0 u0 nL y) : zWA p l e R s m args below meth c Q b B L xs dC dI cA n0 u0 nL (pc, ls, st, h) := by
  obtain ⟨hx, hb, hml, hown, hts, hK, -⟩ := C
  unfold zget at hs
  split at hs
  · rename_i a r
    cases hf : zfind o.2.2.2 (zk h a).1 with
    | none => rw [hf] at hs; cases hs
    | some k =>
      rw [hf, Option.bind_some] at hs
      obtain ⟨q, hq, e1, e2⟩ := zfind_mem hf
      obtain ⟨⟨ht, hk, ref, hl1, hl2⟩, hi⟩ := ho q hq
      rw [e1] at ht hk hl1 hl2 hi
      rw [e2] at hk hl1 hl2 hi
      intro H locs la hR hS hl
      have hR : zRep b B L xs dC dI cA h H := hR
      obtain ⟨a1, a2⟩ := hR.in (a := a) (by omega)
      have he := zws_get b B cA h a1 a2
      rw [zcell_obj ht] at he
      refine va_get (D := (dC, dI)) (ci := (zk h a).1) (v := zfv b B h a k) (C := zC (zk h a).1) (T := zF (zk h a).1) (N := zNF (zk h a).1) hx hb hts (zin_at _ ht) hown hK.1 hR.1 (a - 1) he (zcl_at _ ht) k hk (hts _ hl1) ?_ (zfv_get hk) hdg ?_
      · rcases hl2 with rfl | hl2
        · exact fun _ h9 => h9
        · exact u_same (hts _ hl2)
      · unfold zfv
        split at hs
        · rename_i h2
          simp only [zgo, Option.some.injEq, Sum.inr.injEq] at hs
          subst hs
          rw [if_neg (by rw [hi.mp h2]; decide)]
          exact hW H locs la hR hS hl
        · rename_i h2
          simp only [zgo, Option.some.injEq, Sum.inr.injEq] at hs
          subst hs
          rw [if_pos (by cases hz : zisI (zTy (zk h a).1 k) with | true => rfl | false => exact absurd (hi.mpr hz) h2)]
          exact hW H locs la hR hS hl
  · cases hs
/-- a store into a field, whatever its value -/
theorem zput_row (C : zCx p s m args meth c cc own nm nL b B L xs dC dI cA) (hn0 : s.heap.size + 1 = B + n0) {idx t k a : Nat} (hdg : decode cc pc = .ok (.putfield idx, 3)) (hF : zFo own idx t k) (hfin : (zF t k).2.2.2 = false ∨ ((zF t k).2.2.2 = true ∧ nm = "<init>" ∧ (zF t k).1 = own)) {h' : zH} {v : Value} (ht : (zk h a).1 = t)
    (hn : narrow (zTy t k) v = v) (hfit : fits (zTy t k) v = true) (g1 : zn h' = zn h) (g2 : zu h' = zu h) (g3 : ∀ x, zk h' x = zk h x) (g4 : ∀ x, x ≠ a → zcell b B cA h' x = zcell b B cA h x) (g5 : zfv b B h' a k = v) (g6 : ∀ j, j ≠ k → zfv b B h' a j = zfv b B h a j) (g7 : ∀ j, zi h' 0 j = zi h 0 j) (hle : n0 ≤ zn h)
    {H : Heap} {locs : List Loc} {la : Array Slot} {r : List Value} (hR : zRep b B L xs dC dI cA h H) (hS : va_S (fun q => B ≤ q) s.heap H locs)
    (hW : ∀ (H1 : Heap) (locs1 : List Loc), zRep b B L xs dC dI cA h' H1 → va_S (fun q => B ≤ q) s.heap H1 locs1 → W p l e R s m args below meth c H1 locs1 (zn h' - n0) (zu h' - u0) Q (F0 m (pc + 3) la r)) : W p l e R s m args below meth c H locs (zn h - n0) (zu h - u0) Q (F0 m pc la (v :: .ref (zadr b B a) :: r)) := by
  obtain ⟨hx, hb, hml, hown, hts, hK, -, -, -, -, hnm⟩ := C
  obtain ⟨ht2, hk, ref, hl1, hl2⟩ := hF
  subst ht
  obtain ⟨a1, a2⟩ := hR.in (a := a) (by omega)
  have he := zws_get b B cA h a1 a2
  rw [zcell_obj ht2] at he
  have hsame : ∀ x, s.fieldFound? (zF (zk h a).1 k).1 (zF (zk h a).1 k).2.1 (zF (zk h a).1 k).2.2.1 = some x → s.fieldFound? ref (zF (zk h a).1 k).2.1 (zF (zk h a).1 k).2.2.1 = some x := by
    rcases hl2 with rfl | hl2
    · exact fun _ h9 => h9
    · exact u_same (hts _ hl2)
  have hset : ((List.range (zNF (zk h a).1)).map (zfv b B h a)).set k v = (List.range (zNF (zk h a).1)).map (zfv b B h' a) := by
    apply List.ext_getElem?
    intro j
    by_cases hj : j = k
    · subst hj
      rw [List.getElem?_set_self (by simpa using hk), zfv_get hk, g5]
    · rw [List.getElem?_set_ne (Ne.symm hj)]
      by_cases hj2 : j < zNF (zk h a).1
      · rw [zfv_get hj2, zfv_get hj2, g6 j hj]
      · rw [List.getElem?_eq_none (by simpa using hj2), List.getElem?_eq_none (by simpa using hj2)]
  have fin : ∀ (H1 : Heap) (locs1 : List Loc), va_P (dC, dI) vwCl ((zws b B cA h).set (a - 1) (zadr b B a, .inr ((zk h a).1, ((List.range (zNF (zk h a).1)).map (zfv b B h a)).set k v))) H1 → va_S (fun q => B ≤ q) H H1 locs1 → W p l e R s m args below meth c H1 locs1 (zn h - n0) (zu h - u0) Q (F0 m (pc + 3) la r) := by
    intro H1 locs1 hP1 hS1
    refine zsize fun hz => ?_
    rw [← g1, ← g2]
    have hz2 : H1.size = H.size := by
      have := hS1.1
      have := hR.2.1
      omega
    refine hW H1 locs1 (hR.put (a := a) (by omega) g1 g3 g4 g7 hz2 ?_) (zS_trans hS hS1)
    rw [hset] at hP1
    rw [zcell_obj (h := h') (by rw [g3]; exact ht2), g3]
    exact hP1
  rcases hfin with hfin | ⟨hfin, hni, hdecl⟩
  · exact va_put (D := (dC, dI)) (ci := (zk h a).1) (v := v) (ty := zTy (zk h a).1 k) (C := zC (zk h a).1) (T := zF (zk h a).1) (N := zNF (zk h a).1) hx hb hts (zin_at _ ht2) (zTy (zk h a).1) (zty_at _ ht2) (znm_at _ ht2) hown hK.1 hR.1 (zws_D b B cA h) (zS_self hS) (a - 1) he (zcl_at _ ht2) k hk (hts _ hl1) hsame hfin (zty_at _ ht2 k hk) hn hfit (by simpa using hk) hdg (fun H1 locs1 hP1 _ hS1 => fin H1 locs1 hP1 hS1)
  · exact va_putF (D := (dC, dI)) (ci := (zk h a).1) (v := v) (ty := zTy (zk h a).1 k) (C := zC (zk h a).1) (T := zF (zk h a).1) (N := zNF (zk h a).1) hx hb hts (zin_at _ ht2) (zTy (zk h a).1) (zty_at _ ht2) (znm_at _ ht2) hown hK.1 hR.1 (zws_D b B cA h) (zS_self hS) (a - 1) he (zcl_at _ ht2) k hk (hts _ hl1) hsame hfin (by rw [hnm]; exact hni) hdecl (zty_at _ ht2 k hk) hn hfit (by simpa using hk) hdg (fun H1 locs1 hP1 _ hS1 => fin H1 locs1 hP1 hS1)
theorem zs_put (C : zCx p s m args meth c cc own nm nL b B L xs dC dI cA) (hn0 : s.heap.size + 1 = B + n0) (hle : n0 ≤ zn h) {o : zO} {idx : Nat} (hdg : decode cc pc = .ok (.putfield idx, 3))
    (ho : ∀ q ∈ o.2.2.2, zFo own idx q.1 q.2.1 ∧ ((zF q.1 q.2.1).2.2.2 = false ∨ ((zF q.1 q.2.1).2.2.2 = true ∧ nm = "<init>" ∧ (zF q.1 q.2.1).1 = own)) ∧ (o.2.2.1 = 0 → zTy q.1 q.2.1 = .int) ∧ (o.2.2.1 = 1 → zTy q.1 q.2.1 = .boolean) ∧ (o.2.2.1 = 2 → (∃ C, zTy q.1 q.2.1 = .object C) ∨ ∃ t, zTy q.1 q.2.1 = .array t)) (hs : zput o pc ls st h = some (.inr y))
    (hW : zWA p l e R s m args below meth c Q b B L xs dC dI cA n0 u0 nL y) : zWA p l e R s m args below meth c Q b B L xs dC dI cA n0 u0 nL (pc, ls, st, h) := by
  unfold zput at hs
  split at hs
  · rename_i v a r
    cases hf : zfind o.2.2.2 (zk h a).1 with
    | none => rw [hf] at hs; cases hs
    | some k =>
      rw [hf, Option.bind_some] at hs
      obtain ⟨q, hq, e1, e2⟩ := zfind_mem hf
      obtain ⟨hF, hfin, f0, f1, -⟩ := ho q hq
      rw [e1, e2] at hF hfin f0 f1
      split at hs
      · rename_i hv
        simp only [zgo, Option.some.injEq, Sum.inr.injEq] at hs
        subst hs
        intro H locs la hR hS hl
        have hR : zRep b B L xs dC dI cA h H := hR
        have hI : zisI (zTy (zk h a).1 k) = true := by
          rcases hv with hv | ⟨hv, -⟩
          · rw [f0 hv]; rfl
          · rw [f1 hv]; rfl
        have ha : a ≠ 0 := by
          have := (hR.in (a := a) (by have := hF.1; omega)).1
          omega
        refine zput_row C hn0 (h' := zwI h a k v) (v := .int v) hdg hF hfin rfl ?_ ?_ rfl rfl (fun _ => rfl) ?_ ?_ ?_ ?_ hle hR hS (fun H1 locs1 hR1 hS1 => hW H1 locs1 la hR1 hS1 hl)
        · rcases hv with hv | ⟨hv, rfl | rfl⟩
          · rw [f0 hv]; rfl
          · rw [f1 hv]; decide
          · rw [f1 hv]; decide
        · rcases hv with hv | ⟨hv, rfl | rfl⟩
          · rw [f0 hv]; rfl
          · rw [f1 hv]; decide
          · rw [f1 hv]; decide
        · intro x hx
          have e : ∀ j, zi (zwI h a k v) x j = zi h x j := fun j => by rw [zi_wI, if_neg (fun z => hx z.1)]
          have e3 : zi (zwI h a k v) x = zi h x := funext e
          have e4 : zfv b B (zwI h a k v) x = zfv b B h x := funext fun j => by unfold zfv; rw [zk_wI, zr_wI, e]
          unfold zcell
          rw [zk_wI, e3, e4]
          rfl
        · unfold zfv
          rw [zk_wI, if_pos hI, zi_wI, if_pos ⟨rfl, rfl⟩]
        · intro j hj
          have e : zi (zwI h a k v) a j = zi h a j := by rw [zi_wI, if_neg (fun z => hj z.2)]
          unfold zfv
          rw [zk_wI, zr_wI, e]
        · intro j
          rw [zi_wI, if_neg (fun z => ha z.1.symm)]
      · cases hs
  · rename_i q0 a r
    cases hf : zfind o.2.2.2 (zk h a).1 with
    | none => rw [hf] at hs; cases hs
    | some k =>
      rw [hf, Option.bind_some] at hs
      obtain ⟨q, hq, e1, e2⟩ := zfind_mem hf
      obtain ⟨hF, hfin, -, -, f2⟩ := ho q hq
      rw [e1, e2] at hF hfin f2
      split at hs
      · rename_i hv
        simp only [zgo, Option.some.injEq, Sum.inr.injEq] at hs
        subst hs
        intro H locs la hR hS hl
        have hR : zRep b B L xs dC dI cA h H := hR
        have hI : zisI (zTy (zk h a).1 k) = false := by
          rcases f2 hv with ⟨C, h1⟩ | ⟨C, h1⟩ <;> rw [h1] <;> rfl
        refine zput_row C hn0 (h' := zwR h a k q0) (v := va_rf (q0.map (zadr b B))) hdg hF hfin rfl ?_ ?_ rfl rfl (fun _ => rfl) ?_ ?_ ?_ (fun _ => rfl) hle hR hS (fun H1 locs1 hR1 hS1 => hW H1 locs1 la hR1 hS1 hl)
        · rcases f2 hv with ⟨C, h1⟩ | ⟨C, h1⟩ <;> rw [h1] <;> cases q0 <;> rfl
        · rcases f2 hv with ⟨C, h1⟩ | ⟨C, h1⟩ <;> rw [h1] <;> cases q0 <;> rfl
        · intro x hx
          have e : ∀ j, zr (zwR h a k q0) x j = zr h x j := fun j => by rw [zr_wR, if_neg (fun z => hx z.1)]
          have e3 : (fun j => (zr (zwR h a k q0) x j).map (zadr b B)) = (fun j => (zr h x j).map (zadr b B)) := funext fun j => by rw [e]
          have e4 : zfv b B (zwR h a k q0) x = zfv b B h x := funext fun j => by unfold zfv; rw [zk_wR, zi_wR, e]
          unfold zcell
          rw [zk_wR, e3, e4]
          rfl
        · unfold zfv
          rw [zk_wR, if_neg (by rw [hI]; decide), zr_wR, if_pos ⟨rfl, rfl⟩]
        · intro j hj
          have e : zr (zwR h a k q0) a j = zr h a j := by rw [zr_wR, if_neg (fun z => hj z.2)]
          unfold zfv
          rw [zk_wR, zi_wR, e]
      · cases hs
  · cases hs
/-- arrays -/
theorem zs_ald (C : zCx p s m args meth c cc own nm nL b B L xs dC dI cA) (hdg : decode cc pc = .ok (.iaload, 1)) (hs : zald pc ls st h = some (.inr y))
    (hW : zWA p l e R s m args below meth c Q b B L xs dC dI cA n0 u0 nL y) : zWA p l e R s m args below meth c Q b B L xs dC dI cA n0 u0 nL (pc, ls, st, h) := by
  obtain ⟨hx, hb, hml, hown, hts, hK, hX, hbB, hBs, -⟩ := C
  unfold zald at hs
  split at hs
  · rename_i i a r
    split at hs
    · rename_i ht
      cases hj : zix i (zk h a).2 with
      | none => rw [hj] at hs; cases hs
      | some j =>
        rw [hj, Option.bind_some] at hs
        simp only [zgo, Option.some.injEq, Sum.inr.injEq] at hs
        subst hs
        obtain ⟨hin, hjj⟩ := zix_some hj
        intro H locs la hR hS hl
        have hR : zRep b B L xs dC dI cA h H := hR
        rcases ht with ht | ht
        · obtain ⟨a1, a2⟩ := hR.in (a := a) (by omega)
          have he := zws_get b B cA h a1 a2
          rw [zcell_ints ht] at he
          refine va_iald (D := (dC, dI)) hx hb hK.1 hR.1 (a - 1) 0 he rfl hin hdg ?_
          rw [hjj]
          exact hW H locs la hR hS hl
        · have a0 : a = 0 := by
            rcases Nat.eq_zero_or_pos a with q | q
            · exact q
            · rcases Nat.lt_or_ge a (zn h) with z | z
              · have := hR.2.2.2.2.1 a q z
                omega
              · have := hR.2.2.2.1 a z
                omega
          subst a0
          have hk := hR.2.2.2.2.2.1
          rw [hk] at hin
          have hlt : j < L := by
            rw [← hjj]
            exact Nat.not_le.mp fun q => hin (Or.inr q)
          have K := hW H locs la hR hS hl
          refine va_sld (A := fun q => B ≤ q) (b := b) (L := L) hx hb hX (Nat.lt_of_lt_of_le hbB hBs) (Nat.not_le.mpr hbB) hS hin hdg ?_
          rw [hjj, ← hR.2.2.2.2.2.2 j hlt]
          exact K
    · cases hs
  · cases hs
theorem zs_alen (C : zCx p s m args meth c cc own nm nL b B L xs dC dI cA) (hdg : decode cc pc = .ok (.arraylength, 1)) (hs : zalen pc ls st h = some (.inr y))
    (hW : zWA p l e R s m args below meth c Q b B L xs dC dI cA n0 u0 nL y) : zWA p l e R s m args below meth c Q b B L xs dC dI cA n0 u0 nL (pc, ls, st, h) := by
  obtain ⟨hx, hb, hml, hown, hts, hK, hX, hbB, hBs, -⟩ := C
  unfold zalen at hs
  split at hs
  · rename_i a r
    split at hs
    · rename_i ht
      simp only [zgo, Option.some.injEq, Sum.inr.injEq] at hs
      subst hs
      intro H locs la hR hS hl
      have hR : zRep b B L xs dC dI cA h H := hR
      rcases Nat.lt_or_ge (zk h a).1 16 with h16 | h16
      · obtain ⟨a1, a2⟩ := hR.in (a := a) h16
        have he := zws_get b B cA h a1 a2
        rcases Nat.lt_or_ge 12 (zk h a).1 with q | q
        · rw [zcell_refs q] at he
          rcases (show (zk h a).1 = 13 ∨ (zk h a).1 = 14 ∨ (zk h a).1 = 15 by omega) with z | z | z
          · rw [z] at he
            exact va_alen (D := (dC, dI)) hx hb hK.1 hR.1 (a - 1) 1 he rfl rfl hdg (hW H locs la hR hS hl)
          · rw [z] at he
            exact va_alen (D := (dC, dI)) hx hb hK.1 hR.1 (a - 1) 2 he rfl rfl hdg (hW H locs la hR hS hl)
          · rw [z] at he
            exact va_alen (D := (dC, dI)) hx hb hK.1 hR.1 (a - 1) 3 he rfl rfl hdg (hW H locs la hR hS hl)
        · rw [zcell_ints (by omega)] at he
          exact va_alen (D := (dC, dI)) hx hb hK.1 hR.1 (a - 1) 0 he rfl rfl hdg (hW H locs la hR hS hl)
      · have a0 : a = 0 := by
          rcases Nat.eq_zero_or_pos a with q | q
          · exact q
          · rcases Nat.lt_or_ge a (zn h) with z | z
            · have := hR.2.2.2.2.1 a q z
              omega
            · have := hR.2.2.2.1 a z
              omega
        subst a0
        have K := hW H locs la hR hS hl
        have hk := hR.2.2.2.2.2.1
        dsimp only at K
        rw [hk] at K
        exact va_slen (A := fun q => B ≤ q) (b := b) (L := L) hx hb hX (Nat.lt_of_lt_of_le hbB hBs) (Nat.not_le.mpr hbB) hS hdg K
    · cases hs
  · cases hs
theorem zs_ast (C : zCx p s m args meth c cc own nm nL b B L xs dC dI cA) (hn0 : s.heap.size + 1 = B + n0) (hle : n0 ≤ zn h) (hdg : decode cc pc = .ok (.iastore, 1)) (hs : zast pc ls st h = some (.inr y))
    (hW : zWA p l e R s m args below meth c Q b B L xs dC dI cA n0 u0 nL y) : zWA p l e R s m args below meth c Q b B L xs dC dI cA n0 u0 nL (pc, ls, st, h) := by
  obtain ⟨hx, hb, hml, hown, hts, hK, -⟩ := C
  unfold zast at hs
  split at hs
  · rename_i v i a r
    split at hs
    · rename_i ht
      cases hj : zix i (zk h a).2 with
      | none => rw [hj] at hs; cases hs
      | some j =>
        rw [hj, Option.bind_some] at hs
        simp only [zgo, Option.some.injEq, Sum.inr.injEq] at hs
        subst hs
        obtain ⟨hin, hjj⟩ := zix_some hj
        intro H locs la hR hS hl
        have hR : zRep b B L xs dC dI cA h H := hR
        obtain ⟨a1, a2⟩ := hR.in (a := a) (by omega)
        have he := zws_get b B cA h a1 a2
        rw [zcell_ints ht] at he
        refine va_iast (D := (dC, dI)) hx hb hK.1 hR.1 (zws_D b B cA h) (zS_self hS) (a - 1) 0 he rfl hin hdg (fun H1 locs1 hP1 _ hS1 => zsize fun hz => ?_)
        have hz : H1.size ≤ s.heap.size + (zn h - n0) := hz
        have hz2 : H1.size = H.size := by
          have := hS1.1
          have := hR.2.1
          omega
        refine hW H1 locs1 la (hR.put (a := a) (h' := zwI h a j v) (by omega) rfl (fun _ => rfl) ?_ ?_ hz2 ?_) (zS_trans hS hS1) hl
        · intro x hx
          have e : ∀ j', zi (zwI h a j v) x j' = zi h x j' := fun j' => by rw [zi_wI, if_neg (fun z => hx z.1)]
          have e3 : zi (zwI h a j v) x = zi h x := funext e
          have e4 : zfv b B (zwI h a j v) x = zfv b B h x := funext fun j' => by unfold zfv; rw [zk_wI, zr_wI, e]
          unfold zcell
          rw [zk_wI, e3, e4]
          rfl
        · intro j'
          rw [zi_wI, if_neg (fun z => by omega)]
        · rw [zcell_ints (h := zwI h a j v) ht]
          have e5 : zi (zwI h a j v) a = upd (zi h a) i.toNatClampNeg v := by
            funext j'
            rw [zi_wI, hjj]
            unfold upd
            by_cases q : j' = j
            · rw [if_pos ⟨rfl, q⟩, if_pos q]
            · rw [if_neg (fun z => q z.2), if_neg q]
          rw [e5]
          exact hP1
    · cases hs
  · cases hs
theorem zs_aald (C : zCx p s m args meth c cc own nm nL b B L xs dC dI cA) (hdg : decode cc pc = .ok (.aaload, 1)) (hs : zaald pc ls st h = some (.inr y))
    (hW : zWA p l e R s m args below meth c Q b B L xs dC dI cA n0 u0 nL y) : zWA p l e R s m args below meth c Q b B L xs dC dI cA n0 u0 nL (pc, ls, st, h) := by
  obtain ⟨hx, hb, hml, hown, hts, hK, -⟩ := C
  unfold zaald at hs
  split at hs
  · rename_i i a r
    split at hs
    · rename_i ht
      cases hj : zix i (zk h a).2 with
      | none => rw [hj] at hs; cases hs
      | some j =>
        rw [hj, Option.bind_some] at hs
        simp only [zgo, Option.some.injEq, Sum.inr.injEq] at hs
        subst hs
        obtain ⟨hin, hjj⟩ := zix_some hj
        intro H locs la hR hS hl
        have hR : zRep b B L xs dC dI cA h H := hR
        obtain ⟨a1, a2⟩ := hR.in (a := a) (by omega)
        have he := zws_get b B cA h a1 a2
        rw [zcell_refs (by omega)] at he
        have K := hW H locs la hR hS hl
        rw [← hjj] at K
        rcases (show (zk h a).1 = 13 ∨ (zk h a).1 = 14 ∨ (zk h a).1 = 15 by omega) with z | z | z
        · rw [z] at he
          exact va_aldq (D := (dC, dI)) hx hb hK.1 hR.1 (a - 1) 1 he rfl hin hdg K
        · rw [z] at he
          exact va_aldq (D := (dC, dI)) hx hb hK.1 hR.1 (a - 1) 2 he rfl hin hdg K
        · rw [z] at he
          exact va_aldq (D := (dC, dI)) hx hb hK.1 hR.1 (a - 1) 3 he rfl hin hdg K
    · cases hs
  · cases hs
end ZHOPS
end
section
/-! steps that make cells; arrays of references; instanceof; arraycopy -/
theorem ztys_at (cA : Nat → ClassId) : ∀ t, 13 ≤ t → t ≤ 15 → (ztys cA)[t - 12]? = some (cA (t - 12), .object (zC (if t = 13 then 8 else if t = 14 then 4 else 7))) := by
  intro t h1 h2
  rcases (show t = 13 ∨ t = 14 ∨ t = 15 by omega) with rfl | rfl | rfl <;> rfl
theorem zcast_in1 : Cond.castable RX0 RX8 ∈ lw_tbl := by decide +kernel
theorem zcast_in2 : Cond.castable RX5 RX8 ∈ lw_tbl := by decide +kernel
theorem zcast_in3 : Cond.castable RX5 RX0 ∈ lw_tbl := by decide +kernel
def zokT (ty : FieldType) : Bool := match ty with
  | .int => true
  | .boolean => true
  | .object _ => true
  | .array _ => true
  | _ => false
theorem zokT_at : ∀ t, t < 12 → ∀ k, k < zNF t → zokT (zTy t k) = true := zcases (by decide) (by decide) (by decide) (by decide) (by decide) (by decide) (by decide) (by decide) (by decide) (by decide) (by decide) (by decide)
theorem zcatsum0 (b B : Nat) (r : List zV) (h : r.length ≤ 4) : ((r.map (ztr b B)).map fun v => v.category).sum ≤ 8 := by
  have key : ∀ r : List zV, ((r.map (ztr b B)).map fun v => v.category).sum ≤ 2 * r.length := by
    intro r
    induction r with
    | nil => simp
    | cons v r ih =>
      have : (ztr b B v).category ≤ 2 := by rcases lv_cat (ztr b B v) with q | q <;> omega
      simp only [List.map_cons, List.sum_cons, List.length_cons]
      omega
  have := key r
  omega
section ZMOPS
variable {p : Program} {l : Launch} {e : Env} {R : Room} {s : State} {m : MethodId} {args : Array Value} {below : List Frame} {meth : Method} {c : Code} {Q : State → Prop} {cc : ByteArray} {own nm : String} {nL b B L n0 u0 : Nat} {xs : Nat → Int32} {dC : Nat → ClassId} {dI : Nat → Nat → Nat} {cA : Nat → ClassId}
variable {pc : Nat} {ls : zL} {st : List zV} {h : zH} {y : zS}
/-- the class of an object is the class that its array's component names, or can be cast to it -/
theorem zasg (hK : zK dC dI cA s) {t q : Nat} (h1 : 13 ≤ t) (h2 : t ≤ 15) (hf : zfit t q = true) : q < 12 ∧ ∀ comp, s.vm.findClass (zC (if t = 13 then 8 else if t = 14 then 4 else 7)) = some comp → s.vm.assignable (dC q) comp = true := by
  have hat : ∀ k, k < 12 → ClassAt s (zC k) (dC k) := fun k hk => (hK.1.1 k _ (zcl_at k hk)).2
  have hself : ∀ k, k < 12 → ∀ comp, s.vm.findClass (zC k) = some comp → s.vm.assignable (dC k) comp = true := by
    intro k hk comp hc
    have h3 := hat k hk
    cases h3.1.symm.trans hc
    exact va_assign h3
  rcases (show t = 13 ∨ t = 14 ∨ t = 15 by omega) with rfl | rfl | rfl
  · have : q = 8 ∨ q = 0 ∨ q = 5 := by
      simp [zfit] at hf
      omega
    rcases this with rfl | rfl | rfl
    · exact ⟨by decide, hself 8 (by decide)⟩
    · exact ⟨by decide, fun comp hc => vb_asgC (hK.2.1 _ zcast_in1 rfl) comp (dC 0) hc (hat 0 (by decide)).1⟩
    · exact ⟨by decide, fun comp hc => vb_asgC (hK.2.1 _ zcast_in2 rfl) comp (dC 5) hc (hat 5 (by decide)).1⟩
  · have : q = 4 := by simpa [zfit] using hf
    subst this
    exact ⟨by decide, hself 4 (by decide)⟩
  · have : q = 7 := by simpa [zfit] using hf
    subst this
    exact ⟨by decide, hself 7 (by decide)⟩
theorem zfit_in {t q : Nat} (hf : zfit t q = true) : 13 ≤ t ∧ t ≤ 15 := by
  simp [zfit] at hf
  omega
theorem zs_aast (C : zCx p s m args meth c cc own nm nL b B L xs dC dI cA) (hn0 : s.heap.size + 1 = B + n0) (hle : n0 ≤ zn h) (hdg : decode cc pc = .ok (.aastore, 1)) (hs : zaast pc ls st h = some (.inr y))
    (hW : zWA p l e R s m args below meth c Q b B L xs dC dI cA n0 u0 nL y) : zWA p l e R s m args below meth c Q b B L xs dC dI cA n0 u0 nL (pc, ls, st, h) := by
  obtain ⟨hx, hb, hml, hown, hts, hK, -⟩ := C
  unfold zaast at hs
  split at hs
  · rename_i q i a r
    split at hs
    · rename_i ht
      cases hj : zix i (zk h a).2 with
      | none => rw [hj] at hs; cases hs
      | some j =>
        rw [hj, Option.bind_some] at hs
        simp only [zgo, Option.some.injEq, Sum.inr.injEq] at hs
        subst hs
        obtain ⟨hin, hjj⟩ := zix_some hj
        obtain ⟨t1, t2⟩ := zfit_in ht
        obtain ⟨hq, hasg⟩ := zasg hK t1 t2 ht
        intro H locs la hR hS hl
        have hR : zRep b B L xs dC dI cA h H := hR
        obtain ⟨a1, a2⟩ := hR.in (a := a) (by omega)
        obtain ⟨q1, q2⟩ := hR.in (a := q) (by omega)
        have he := zws_get b B cA h a1 a2
        have hv := zws_get b B cA h q1 q2
        rw [zcell_refs (by omega)] at he
        rw [zcell_obj hq] at hv
        have hlt : i.toNatClampNeg < (zk h a).2 := Nat.not_le.mp fun z => hin (Or.inr z)
        have h0 : ¬ i < 0 := fun z => hin (Or.inl z)
        obtain ⟨r', hr', cellV, g1, g2, g3, -⟩ := hR.1 _ _ hv
        obtain ⟨kA, comp, k1, k2, k3, -⟩ := (hK.1.2 _ _ (ztys_at cA _ t1 t2)).2
        have hcell := hR.1 _ _ he
        have hcl : ∃ kC, s.vm.classes[dC (zk h q).1]? = some kC := by
          obtain ⟨kC, hkC, -⟩ := (hK.1.1 _ _ (zcl_at _ hq)).2.2
          exact ⟨kC, hkC⟩
        obtain ⟨kC, hkC⟩ := hcl
        obtain ⟨kcomp, hkcomp, -⟩ := Vm.findClass_spec k3
        refine W.aast hx hb hcell (fun z h => by cases h) (fun h => by cases h) k1 k2 rfl hkcomp ⟨h0, by show _ < (arrV _ _ _).slots.size; rw [arrV_size]; exact hlt⟩ g1 (fun z h => by rw [g3] at h; cases h) (by rw [g2]; exact hkC) (by rw [g2]; exact hasg comp k3) rfl rfl hdg fun H1 e1 z1 oq => ?_
        have hS1 : va_S (fun q => B ≤ q) s.heap H1 (locs ++ [⟨zadr b B a, i.toNatClampNeg⟩]) := hS.put z1 oq ((zws_D b B cA h).2 _ _ he)
        have hPset := hR.1.set (zws_D b B cA h) he (e := zcell b B cA (zwR h a j (some q)) a) (H1 := H1) ?_ oq
        · refine hW H1 _ la (hR.put (a := a) (h' := zwR h a j (some q)) (by omega) rfl (fun _ => rfl) ?_ (fun _ => rfl) z1 hPset) hS1 hl
          intro x hx
          have e : ∀ j', zr (zwR h a j (some q)) x j' = zr h x j' := fun j' => by rw [zr_wR, if_neg (fun z => hx z.1)]
          have e3 : (fun j' => (zr (zwR h a j (some q)) x j').map (zadr b B)) = (fun j' => (zr h x j').map (zadr b B)) := funext fun j' => by rw [e]
          have e4 : zfv b B (zwR h a j (some q)) x = zfv b B h x := funext fun j' => by unfold zfv; rw [zk_wR, zi_wR, e]
          unfold zcell
          rw [zk_wR, e3, e4]
          rfl
        · rw [zcell_refs (h := zwR h a j (some q)) (by rw [zk_wR]; omega)]
          show H1[_]? = some (vp_cell _ _)
          rw [e1, vp_cell_q, vp_cell_q, arrV_store, zk_wR]
          congr 2
          funext z
          rw [zr_wR, hjj]
          unfold updV
          by_cases hz : z = j
          · rw [if_pos hz, if_pos ⟨rfl, hz⟩]
            rfl
          · rw [if_neg hz, if_neg (fun w => hz w.2)]
    · cases hs
  · cases hs
/-- a new cell behind all others -/
theorem zRep.push {H H1 : Heap} (r : zRep b B L xs dC dI cA h H) {t n N : Nat} (ht : t < 16) (hz : H1.size = H.size + 1) (ho : ∀ q, q < H.size → H1[q]? = H[q]?) (hc : va_at (dC, dI) vwCl (H.size, zcell b B cA (zN h t n N) (zn h)) H1) : zRep b B L xs dC dI cA (zN h t n N) H1 := by
  obtain ⟨r1, r2, r3, r4, r5, r6, r7⟩ := r
  have hcell : ∀ x, x < zn h → zcell b B cA (zN h t n N) x = zcell b B cA h x := by
    intro x hx
    have e1 : zk (zN h t n N) x = zk h x := by rw [zk_N, if_neg (by omega)]
    have e2 : zi (zN h t n N) x = zi h x := funext fun j => by rw [zi_N, if_neg (by omega)]
    have e3 : ∀ j, zr (zN h t n N) x j = zr h x j := fun j => by rw [zr_N, if_neg (by omega)]
    have e4 : zfv b B (zN h t n N) x = zfv b B h x := funext fun j => by unfold zfv; rw [e1, e2, e3]
    have e5 : (fun j => (zr (zN h t n N) x j).map (zadr b B)) = (fun j => (zr h x j).map (zadr b B)) := funext fun j => by rw [e3]
    unfold zcell
    rw [e1, e2, e4, e5]
  have hws : zws b B cA (zN h t n N) = zws b B cA h ++ [(H.size, zcell b B cA (zN h t n N) (zn h))] := by
    unfold zws
    rw [zn_N, show zn h + 1 - 1 = (zn h - 1) + 1 by omega, List.range_succ, List.map_append]
    congr 1
    · apply List.map_congr_left
      intro k hk
      have := List.mem_range.mp hk
      rw [hcell (k + 1) (by omega)]
    · simp only [List.map_cons, List.map_nil]
      rw [show B + (zn h - 1) = H.size by omega, show zn h - 1 + 1 = zn h by omega]
  refine ⟨?_, by rw [zn_N]; omega, by rw [zn_N]; omega, fun a ha => ?_, fun a ha ha2 => ?_, by rw [zk_N, if_neg (by omega)]; exact r6, fun j hj => by rw [zi_N, if_neg (by omega)]; exact r7 j hj⟩
  · rw [hws]
    refine va_P.app (r1.kept fun k x hx => ho x.1 ((r1 k x hx).lt)) (fun k x hx => ?_)
    have hz : k < 1 := (List.getElem?_eq_some_iff.mp hx).1
    rw [show k = 0 by omega] at hx
    cases hx
    exact hc
  · rw [zn_N] at ha
    rw [zk_N, if_neg (by omega)]
    exact r4 a (by omega)
  · rw [zn_N] at ha2
    rw [zk_N]
    split
    · exact ht
    · exact r5 a ha (by omega)
theorem zdef (t k : Nat) (ht : t < 12) (hk : k < zNF t) (h0 : zH) (N : Nat) : defaultValue (zTy t k) = zfv b B (zN h0 t 0 N) (zn h0) k := by
  have e : ∀ ty : FieldType, (ty = .int ∨ ty = .boolean ∨ (∃ C, ty = .object C) ∨ ∃ u, ty = .array u) → defaultValue ty = if zisI ty = true then Value.int 0 else va_rf ((none : Option Nat).map (zadr b B)) := by
    rintro ty (rfl | rfl | ⟨C, rfl⟩ | ⟨u, rfl⟩) <;> rfl
  have e2 : zTy t k = .int ∨ zTy t k = .boolean ∨ (∃ C, zTy t k = .object C) ∨ ∃ u, zTy t k = .array u := by
    have h3 := zokT_at t ht k hk
    cases hz : zTy t k <;> rw [hz] at h3 <;> simp [zokT] at h3 <;> simp
  rw [e _ e2]
  unfold zfv
  rw [zk_N, if_pos rfl, zi_N, if_pos rfl, zr_N, if_pos rfl]
theorem zs_new (C : zCx p s m args meth c cc own nm nL b B L xs dC dI cA) (hn0 : s.heap.size + 1 = B + n0) (hle : n0 ≤ zn h) (hu : u0 ≤ zu h) {o : zO} {idx : Nat} (hdg : decode cc pc = .ok (.new idx, 3)) (ho : ∀ q ∈ o.2.2.2, q.1 < 12 ∧ q.2.1 = zNF q.1 ∧ Cond.classLink own idx (zC q.1) ∈ zGood ∧ Cond.instantiable (zC q.1) (zNF q.1) ∈ zGood ∧ Cond.initialized (zC q.1) ∈ zGood) (hs : znew o pc ls st h = some (.inr y))
    (hc : zn y.2.2.2 - n0 ≤ R.cells) (hsl : zu y.2.2.2 - u0 ≤ R.slots)
    (hW : zWA p l e R s m args below meth c Q b B L xs dC dI cA n0 u0 nL y) : zWA p l e R s m args below meth c Q b B L xs dC dI cA n0 u0 nL (pc, ls, st, h) := by
  obtain ⟨hx, hb, hml, hown, hts, hK, -⟩ := C
  unfold znew at hs
  split at hs
  · rename_i q hq
    obtain ⟨ht, hN, w1, w2, w3⟩ := ho q (by rw [hq]; exact List.mem_singleton.mpr rfl)
    simp only [zgo, Option.some.injEq, Sum.inr.injEq] at hs
    subst hs
    dsimp only at hc hsl
    rw [zn_N] at hc
    rw [zu_N, hN] at hsl
    intro H locs la hR hS hl
    have hR : zRep b B L xs dC dI cA h H := hR
    have hKn := hK.1.1 _ _ (zcl_at _ ht)
    refine W.newcK hx hb hown (hts _ w1) (hts _ w2) (hts _ w3) rfl hdg (cells := zn h - n0) (slots := zu h - u0) (by omega) (by omega) hKn.2.1 rfl fun H1 kC hkC e1 z1 o1 => ?_
    have hadr : zadr b B (zn h) = H.size := by
      have := hR.2.1
      have := hR.2.2.1
      rw [zadr_pos this]
      omega
    have K := hW H1 locs la (hR.push (t := q.1) (n := 0) (N := q.2.1) (by omega) z1 o1 ?_) ⟨Nat.le_trans hS.1 (by omega), fun x h1 h2 => (o1 x (Nat.lt_of_lt_of_le h1 hS.1)).trans (hS.2.1 x h1 h2), hS.2.2⟩ hl
    · dsimp only at K
      rw [zn_N, zu_N, hN] at K
      refine W.cs (cells' := zn h + 1 - n0) (slots' := zu h + zNF q.1 - u0) (by omega) (by omega) ?_
      have e5 : (ztr b B (.inr (.inr (some (zn h)))) : Value) = .ref H.size := by
        show va_rf (some (zadr b B (zn h))) = _
        rw [hadr]
        rfl
      rw [List.map_cons, e5] at K
      exact K
    · rw [zcell_obj (by rw [zk_N, if_pos rfl]; exact ht), zk_N, if_pos rfl]
      exact ⟨_, zcl_at _ ht, (u_born (zTy q.1) hts (zin_at _ ht) hKn hkC e1 (zty_at _ ht)).to (fun k hk => by
        rw [zdef (b := b) (B := B) q.1 k ht hk h q.2.1]
        unfold vp_V
        rw [List.getD_eq_getElem?_getD, zfv_get hk]
        rfl)⟩
  · cases hs
theorem zs_newa (C : zCx p s m args meth c cc own nm nL b B L xs dC dI cA) (hn0 : s.heap.size + 1 = B + n0) (hle : n0 ≤ zn h) (hu : u0 ≤ zu h) (hdg : decode cc pc = .ok (.newarray .int, 2)) (harr : Cond.arrayClass .int ∈ zGood) (hs : znewa 2 12 pc ls st h = some (.inr y))
    (hc : zn y.2.2.2 - n0 ≤ R.cells) (hsl : zu y.2.2.2 - u0 ≤ R.slots)
    (hW : zWA p l e R s m args below meth c Q b B L xs dC dI cA n0 u0 nL y) : zWA p l e R s m args below meth c Q b B L xs dC dI cA n0 u0 nL (pc, ls, st, h) := by
  obtain ⟨hx, hb, hml, hown, hts, hK, -⟩ := C
  unfold znewa at hs
  split at hs
  · rename_i n r
    split at hs
    · cases hs
    · rename_i hn
      simp only [zgo, Option.some.injEq, Sum.inr.injEq] at hs
      subst hs
      dsimp only at hc hsl
      rw [zn_N] at hc
      rw [zu_N] at hsl
      intro H locs la hR hS hl
      have hR : zRep b B L xs dC dI cA h H := hR
      have hb2 : n.toNatClampNeg * componentBytes (newarray.typeOf .int) ≤ 536870912 := by
        have h3 : n.toNatClampNeg ≤ 1000 := Nat.not_lt.mp fun z => hn (Or.inr z)
        have h4 : componentBytes (newarray.typeOf .int) = 4 := by decide
        rw [h4]
        omega
      refine va_newaK hx hb (atype := .int) (hts _ harr) rfl hdg (cells := zn h - n0) (slots := zu h - u0) rfl (fun z => hn (Or.inl z)) rfl hb2 (by omega) (by omega) rfl fun H1 cA2 e1 z1 o1 hAr hNm => ?_
      have hca : cA2 = cA 0 := by
        have h5 : va_RA s (cA 0) .int := (hK.1.2 0 _ rfl).2
        exact Option.some.inj (hNm.symm.trans h5)
      subst hca
      have hadr : zadr b B (zn h) = H.size := by
        have := hR.2.1
        have := hR.2.2.1
        rw [zadr_pos this]
        omega
      have K := hW H1 locs la (hR.push (t := 12) (n := n.toNatClampNeg) (N := n.toNatClampNeg) (by omega) z1 o1 ?_) ⟨Nat.le_trans hS.1 (by omega), fun x h1 h2 => (o1 x (Nat.lt_of_lt_of_le h1 hS.1)).trans (hS.2.1 x h1 h2), hS.2.2⟩ hl
      · dsimp only at K
        rw [zn_N, zu_N] at K
        refine W.cs (cells' := zn h + 1 - n0) (slots' := zu h + n.toNatClampNeg - u0) (by omega) (by omega) ?_
        have e5 : (ztr b B (.inr (.inr (some (zn h)))) : Value) = .ref H.size := by
          show va_rf (some (zadr b B (zn h))) = _
          rw [hadr]
          rfl
        rw [List.map_cons, e5] at K
        exact K
      · rw [zcell_ints (by rw [zk_N, if_pos rfl]), zk_N, if_pos rfl]
        show H1[H.size]? = some (vp_cell _ _)
        rw [vp_cell_i, e1]
        congr 2
        funext j
        rw [zi_N, if_pos rfl]
        rfl
  · cases hs
theorem zs_anew (C : zCx p s m args meth c cc own nm nL b B L xs dC dI cA) (hn0 : s.heap.size + 1 = B + n0) (hle : n0 ≤ zn h) (hu : u0 ≤ zu h) {idx t : Nat} (h13 : 13 ≤ t) (h15 : t ≤ 15) (hdg : decode cc pc = .ok (.anewarray idx, 3)) (hlk : Cond.classLink own idx (zC (if t = 13 then 8 else if t = 14 then 4 else 7)) ∈ zGood) (hov : Cond.arrayOver (.object (zC (if t = 13 then 8 else if t = 14 then 4 else 7))) ∈ lw_tbl) (hs : znewa 3 t pc ls st h = some (.inr y))
    (hc : zn y.2.2.2 - n0 ≤ R.cells) (hsl : zu y.2.2.2 - u0 ≤ R.slots)
    (hW : zWA p l e R s m args below meth c Q b B L xs dC dI cA n0 u0 nL y) : zWA p l e R s m args below meth c Q b B L xs dC dI cA n0 u0 nL (pc, ls, st, h) := by
  obtain ⟨hx, hb, hml, hown, hts, hK, -⟩ := C
  unfold znewa at hs
  split at hs
  · rename_i n r
    split at hs
    · cases hs
    · rename_i hn
      simp only [zgo, Option.some.injEq, Sum.inr.injEq] at hs
      subst hs
      dsimp only at hc hsl
      rw [zn_N] at hc
      rw [zu_N] at hsl
      intro H locs la hR hS hl
      have hR : zRep b B L xs dC dI cA h H := hR
      have hb2 : n.toNatClampNeg * 4 ≤ 536870912 := by
        have h3 : n.toNatClampNeg ≤ 1000 := Nat.not_lt.mp fun z => hn (Or.inr z)
        omega
      have hao : va_AO (zC (if t = 13 then 8 else if t = 14 then 4 else 7)) s := hK.2.1 _ hov rfl
      refine W.anew hx hb hown (hts _ hlk) (va_AO.use hao) rfl hdg (cells := zn h - n0) (slots := zu h - u0) rfl (fun z => hn (Or.inl z)) hb2 (by omega) (by omega) fun cA2 kA comp f1 f2 f3 f4 => ?_
      have hca : cA2 = cA (t - 12) := by
        obtain ⟨_, _, -, -, -, h5⟩ := (hK.1.2 _ _ (ztys_at cA t h13 h15)).2
        exact Option.some.inj (f1.symm.trans h5)
      subst hca
      generalize hH1 : H.push ({ cls := cA (t - 12), slots := Array.replicate n.toNatClampNeg .null, vm := .none } : Cell) = H1
      have z1 : H1.size = H.size + 1 := by rw [← hH1, Array.size_push]
      have e1 : H1[H.size]? = some (arrV (cA (t - 12)) n.toNatClampNeg (fun _ => .null)) := by rw [← hH1, Array.getElem?_push_size, ← arrV_new]
      have o1 : ∀ q : Nat, q < H.size → H1[q]? = H[q]? := fun q hq => by rw [← hH1, Array.getElem?_push, if_neg (Nat.ne_of_lt hq)]
      have hadr : zadr b B (zn h) = H.size := by
        have := hR.2.1
        have := hR.2.2.1
        rw [zadr_pos this]
        omega
      have K := hW H1 locs la (hR.push (t := t) (n := n.toNatClampNeg) (N := n.toNatClampNeg) (by omega) z1 o1 ?_) ⟨Nat.le_trans hS.1 (by omega), fun x h1 h2 => (o1 x (Nat.lt_of_lt_of_le h1 hS.1)).trans (hS.2.1 x h1 h2), hS.2.2⟩ hl
      · dsimp only at K
        rw [zn_N, zu_N] at K
        refine W.cs (cells' := zn h + 1 - n0) (slots' := zu h + n.toNatClampNeg - u0) (by omega) (by omega) ?_
        have e5 : (ztr b B (.inr (.inr (some (zn h)))) : Value) = .ref H.size := by
          show va_rf (some (zadr b B (zn h))) = _
          rw [hadr]
          rfl
        rw [List.map_cons, e5] at K
        exact K
      · rw [zcell_refs (by rw [zk_N, if_pos rfl]; exact (show 12 < t by omega)), zk_N, if_pos rfl]
        show H1[H.size]? = some (vp_cell _ _)
        rw [vp_cell_q, e1]
        congr 2
        funext j
        rw [zr_N, if_pos rfl]
        rfl
  · cases hs
/-- instanceof: 1 where the class is the named one or can be cast to it, 0 where it is told that it can't -/
def zIo (t : Nat) (nm2 : String) (k : Nat) : Prop := t < 12 ∧ ((k = 1 ∧ (zC t = nm2 ∨ (Cond.castable (zC t) nm2 ∈ lw_tbl))) ∨ (k = 0 ∧ ((zC t = RX8 ∧ nm2 = RX5) ∨ (zC t = RX8 ∧ nm2 = RX0) ∨ (zC t = RX0 ∧ nm2 = RX5))))
theorem zs_inst (C : zCx p s m args meth c cc own nm nL b B L xs dC dI cA) {o : zO} {idx : Nat} {nm2 : String} (hdg : decode cc pc = .ok (.instanceof idx, 3)) (hlk : Cond.classLink own idx nm2 ∈ zGood) (ho : ∀ q ∈ o.2.2.2, zIo q.1 nm2 q.2.1) (hs : zinst o pc ls st h = some (.inr y))
    (hW : zWA p l e R s m args below meth c Q b B L xs dC dI cA n0 u0 nL y) : zWA p l e R s m args below meth c Q b B L xs dC dI cA n0 u0 nL (pc, ls, st, h) := by
  obtain ⟨hx, hb, hml, hown, hts, hK, -⟩ := C
  unfold zinst at hs
  split at hs
  · rename_i a r
    cases hf : zfind o.2.2.2 (zk h a).1 with
    | none => rw [hf] at hs; cases hs
    | some k =>
      rw [hf, Option.bind_some] at hs
      obtain ⟨q, hq, e1, e2⟩ := zfind_mem hf
      obtain ⟨ht, hi⟩ := ho q hq
      rw [e1] at ht hi
      rw [e2] at hi
      simp only [zgo, Option.some.injEq, Sum.inr.injEq] at hs
      subst hs
      intro H locs la hR hS hl
      have hR : zRep b B L xs dC dI cA h H := hR
      obtain ⟨a1, a2⟩ := hR.in (a := a) (by omega)
      have he := zws_get b B cA h a1 a2
      rw [zcell_obj ht] at he
      have hrec := va_recv hK.1 hR.1 (zcl_at _ ht) he
      have K := hW H locs la hR hS hl
      dsimp only at K
      rcases hi with ⟨rfl, hi⟩ | ⟨rfl, hi⟩
      · rw [if_pos rfl] at K
        rcases hi with hi | hi
        · subst hi
          exact va_instS hx hb hown (hts _ hlk) (hK.1.1 _ _ (zcl_at _ ht)).2 hrec hdg K
        · exact va_instY hx hb hown (hts _ hlk) (hK.2.1 _ hi rfl) hrec hdg K
      · rw [if_neg (by decide)] at K
        refine va_instNo hx hb hown (hts _ hlk) ?_ hrec hdg K
        rcases hi with ⟨h1, h2⟩ | ⟨h1, h2⟩ | ⟨h1, h2⟩
        · show va_Nc (zC (zk h a).1) nm2 s
          rw [h1, h2]; exact hK.2.2.1
        · show va_Nc (zC (zk h a).1) nm2 s
          rw [h1, h2]; exact hK.2.2.2.1
        · show va_Nc (zC (zk h a).1) nm2 s
          rw [h1, h2]; exact hK.2.2.2.2
  · cases hs
theorem zs_copy (C : zCx p s m args meth c cc own nm nL b B L xs dC dI cA) (hn0 : s.heap.size + 1 = B + n0) (hle : n0 ≤ zn h) {idx : Nat} (hdg : decode cc pc = .ok (.invokestatic idx, 3)) (w1 : Cond.methodLink own idx arraycopyName ∈ zGood) (w2 : Cond.native arraycopyName ∈ zGood) (w3 : Cond.static arraycopyName ∈ zGood) (w4 : Cond.initialized "java/lang/System" ∈ zGood) (hfr : 1 ≤ R.frames) (hlo : 40 ≤ R.locals) (hs : zcopy pc ls st h = some (.inr y))
    (hW : zWA p l e R s m args below meth c Q b B L xs dC dI cA n0 u0 nL y) : zWA p l e R s m args below meth c Q b B L xs dC dI cA n0 u0 nL (pc, ls, st, h) := by
  obtain ⟨hx, hb, hml, hown, hts, hK, -⟩ := C
  unfold zcopy at hs
  split at hs
  · rename_i n dp q sp a r
    split at hs
    · rename_i hc
      obtain ⟨ta, tq, c1, c2, c3, c4, c5, rfl⟩ := hc
      simp only [zgo, Option.some.injEq, Sum.inr.injEq] at hs
      subst hs
      intro H locs la hR hS hl
      have hR : zRep b B L xs dC dI cA h H := hR
      obtain ⟨a1, a2⟩ := hR.in (a := a) (by omega)
      obtain ⟨q1, q2⟩ := hR.in (a := q) (by omega)
      have he := zws_get b B cA h a1 a2
      have hq := zws_get b B cA h q1 q2
      rw [zcell_ints ta] at he
      rw [zcell_ints tq] at hq
      refine va_copyi (D := (dC, dI)) (rest := []) hx hb (by rw [hml, hl.1]) hown (hts _ w1) (hts _ w2) (hts _ w3) (hts _ w4) hK.1 hR.1 (zws_D b B cA h) (zS_self hS) (a - 1) (q - 1) 0 0 he hq rfl rfl rfl c3 c2 c1 c4 c5 (fun _ _ => rfl) hfr ?_ hdg (fun H1 locs1 hP1 _ hS1 => zsize fun hz => ?_)
      · have : nativeFrameWords "java/lang/System" "arraycopy" 5 + 11 ≤ 40 := by decide +kernel
        simpa using Nat.le_trans this hlo
      · have hz : H1.size ≤ s.heap.size + (zn h - n0) := hz
        have hz2 : H1.size = H.size := by
          have := hS1.1
          have := hR.2.1
          omega
        refine hW H1 locs1 la (hR.put (a := q) (h' := zwC h a sp.toNatClampNeg q dp.toNatClampNeg n.toNatClampNeg) (by omega) rfl (fun _ => rfl) ?_ ?_ hz2 ?_) (zS_trans hS hS1) hl
        · intro x hx
          have e : ∀ j', zi (zwC h a sp.toNatClampNeg q dp.toNatClampNeg n.toNatClampNeg) x j' = zi h x j' := fun j' => by rw [zi_wC, if_neg (fun z => hx z.1)]
          have e3 : zi (zwC h a sp.toNatClampNeg q dp.toNatClampNeg n.toNatClampNeg) x = zi h x := funext e
          have e4 : zfv b B (zwC h a sp.toNatClampNeg q dp.toNatClampNeg n.toNatClampNeg) x = zfv b B h x := funext fun j' => by unfold zfv; rw [zk_wC, zr_wC, e]
          unfold zcell
          rw [zk_wC, e3, e4]
          rfl
        · intro j'
          rw [zi_wC, if_neg (fun z => by omega)]
        · rw [zcell_ints (h := zwC h a sp.toNatClampNeg q dp.toNatClampNeg n.toNatClampNeg) tq]
          have e5 : zi (zwC h a sp.toNatClampNeg q dp.toNatClampNeg n.toNatClampNeg) q = va_cpy (zi h a) (zi h q) sp.toNatClampNeg dp.toNatClampNeg n.toNatClampNeg := by
            funext j'
            rw [zi_wC]
            unfold va_cpy
            by_cases z : dp.toNatClampNeg ≤ j' ∧ j' < dp.toNatClampNeg + n.toNatClampNeg
            · rw [if_pos ⟨rfl, z⟩, if_pos z]
            · rw [if_neg (fun w => z w.2), if_neg z]
          rw [e5]
          exact hP1
    · cases hs
  · cases hs
theorem zs_max (C : zCx p s m args meth c cc own nm nL b B L xs dC dI cA) {idx : Nat} (hdg : decode cc pc = .ok (.invokestatic idx, 3)) (w1 : Cond.methodLink own idx Lib.Math.max.name ∈ zGood) (w2 : Cond.static Lib.Math.max.name ∈ zGood) (w3 : Cond.initialized "java/lang/Math" ∈ zGood) (w4 : Cond.code Lib.Math.max.name Lib.Math.max.code 2 (some .int) ∈ zGood) (hfr : 1 ≤ R.frames) (hlo : 40 ≤ R.locals) (hc : zn y.2.2.2 - n0 ≤ R.cells) (hsl : zu y.2.2.2 - u0 ≤ R.slots) (hs : zmax pc ls st h = some (.inr y))
    (hW : zWA p l e R s m args below meth c Q b B L xs dC dI cA n0 u0 nL y) : zWA p l e R s m args below meth c Q b B L xs dC dI cA n0 u0 nL (pc, ls, st, h) := by
  obtain ⟨hx, hb, hml, hown, hts, hK, -⟩ := C
  unfold zmax at hs
  split at hs
  · rename_i v u r
    split at hs
    · rename_i hr
      simp only [zgo, Option.some.injEq, Sum.inr.injEq] at hs
      subst hs
      intro H locs la hR hS hl
      have := zcatsum0 b B r hr
      exact va_mmax hx hb (by rw [hml, hl.1]) hown (hts _ w1) (hts _ w2) (hts _ w3) (hts _ w4) hfr (by omega) hc hsl hdg (hW H locs la hR hS hl)
    · cases hs
  · cases hs
theorem zs_min (C : zCx p s m args meth c cc own nm nL b B L xs dC dI cA) {idx : Nat} (hdg : decode cc pc = .ok (.invokestatic idx, 3)) (w1 : Cond.methodLink own idx Lib.Math.min.name ∈ zGood) (w2 : Cond.static Lib.Math.min.name ∈ zGood) (w3 : Cond.initialized "java/lang/Math" ∈ zGood) (w4 : Cond.code Lib.Math.min.name Lib.Math.min.code 2 (some .int) ∈ zGood) (hfr : 1 ≤ R.frames) (hlo : 40 ≤ R.locals) (hc : zn y.2.2.2 - n0 ≤ R.cells) (hsl : zu y.2.2.2 - u0 ≤ R.slots) (hs : zmin pc ls st h = some (.inr y))
    (hW : zWA p l e R s m args below meth c Q b B L xs dC dI cA n0 u0 nL y) : zWA p l e R s m args below meth c Q b B L xs dC dI cA n0 u0 nL (pc, ls, st, h) := by
  obtain ⟨hx, hb, hml, hown, hts, hK, -⟩ := C
  unfold zmin at hs
  split at hs
  · rename_i v u r
    split at hs
    · rename_i hr
      simp only [zgo, Option.some.injEq, Sum.inr.injEq] at hs
      subst hs
      intro H locs la hR hS hl
      have := zcatsum0 b B r hr
      exact va_mmin hx hb (by rw [hml, hl.1]) hown (hts _ w1) (hts _ w2) (hts _ w3) (hts _ w4) hfr (by omega) hc hsl hdg (hW H locs la hR hS hl)
    · cases hs
  · cases hs
end ZMOPS
end
section
/-! methods: name, code, locals, parameters, what it answers, its instructions -/
abbrev zQ : Type := MethodName × ByteArray × Nat × Nat × Option FieldType × List (Nat × zO)
def zlk : List (Nat × zO) → Nat → Option zO
  | [], _ => none
  | q :: l, pc => if q.1 = pc then some q.2 else zlk l pc
theorem zlk_mem : ∀ {tab : List (Nat × zO)} {pc : Nat} {o : zO}, zlk tab pc = some o → (pc, o) ∈ tab
  | [], pc, o, h => by simp [zlk] at h
  | q :: l, pc, o, h => by
    unfold zlk at h
    split at h
    · rename_i hq
      obtain ⟨q1, q2⟩ := q
      cases hq
      cases h
      exact List.mem_cons_self
    · exact List.mem_cons_of_mem _ (zlk_mem h)
def zP (M : Nat → zQ) (mid : Nat) : Nat × (Nat → Option zO) := ((M mid).2.2.1, zlk (M mid).2.2.2.2.2)
def zcode (M : Nat → zQ) (mid : Nat) : Cond := .code (M mid).1 (M mid).2.1 (M mid).2.2.1 (M mid).2.2.2.2.1
def zcomp (t : Nat) : Nat := if t = 13 then 8 else if t = 14 then 4 else 7
/-- the words that an instruction needs -/
def zref (q : Nat × Nat × Nat × String × String) : String := if q.2.2.1 = 0 then (zF q.1 q.2.1).1 else q.2.2.2.1
def zneedF (own : String) (i : Nat) (q : Nat × Nat × Nat × String × String) : List Cond :=
  .fieldLink own i (zref q) (zF q.1 q.2.1).2.1 (zF q.1 q.2.1).2.2.1 :: if q.2.2.1 = 0 then [] else [.sameField q.2.2.2.1 (zF q.1 q.2.1).1 (zF q.1 q.2.1).2.1 (zF q.1 q.2.1).2.2.1]
def zxn (M : Nat → zQ) (q : Nat × Nat × Nat × String × String) : MethodName := ⟨q.2.2.2.1, (M q.2.1).1.name, (M q.2.1).1.desc⟩
def zown (M : Nat → zQ) (q : Nat × Nat × Nat × String × String) : MethodName := ⟨q.2.2.2.2, (M q.2.1).1.name, (M q.2.1).1.desc⟩
/-- calls: 0 a method of the receiver's own class, 1 an inherited one, 2 static, 3 a nest mate's static, 4 a constructor, 5 super's, 10 + k one that overrides method k -/
def zneedC (M : Nat → zQ) (own : String) (i : Nat) (q : Nat × Nat × Nat × String × String) : List Cond := match q.2.2.1 with
  | 0 => [.methodLink own i (M q.2.1).1, .instanceMethod (M q.2.1).1, .selects (zC q.1) (M q.2.1).1 (M q.2.1).1, .initialized (zC q.1), zcode M q.2.1]
  | 1 => [.methodLink own i (zxn M q), .sameMethod q.2.2.2.1 q.2.2.2.2 (M q.2.1).1.name (M q.2.1).1.desc, .selects (zC q.1) (zxn M q) (M q.2.1).1, .instanceMethod (M q.2.1).1, .initialized (M q.2.1).1.cls, zcode M q.2.1]
  | 2 => [.methodLink own i (M q.2.1).1, .static (M q.2.1).1, .initialized (M q.2.1).1.cls, zcode M q.2.1]
  | 3 => [.static (M q.2.1).1, .initialized (M q.2.1).1.cls, zcode M q.2.1]
  | 4 => [.methodLink own i (M q.2.1).1, .instanceMethod (M q.2.1).1, .initialized (M q.2.1).1.cls, zcode M q.2.1]
  | 5 => [.methodLink own i (M q.2.1).1, .sameMethod (M q.2.1).1.cls (M q.2.1).1.cls (M q.2.1).1.name (M q.2.1).1.desc, .superclass own (M q.2.1).1.cls, .instanceMethod (M q.2.1).1, .initialized (M q.2.1).1.cls, zcode M q.2.1]
  | k => [.methodLink own i (zxn M q), .sameMethod q.2.2.2.1 q.2.2.2.2 (M q.2.1).1.name (M q.2.1).1.desc, .selects (zC q.1) (zxn M q) (M q.2.1).1, .instanceMethod (M q.2.1).1, .initialized (M q.2.1).1.cls, zcode M q.2.1, .instanceMethod (zown M q), zcode M (k - 10)]
def zneed (M : Nat → zQ) (own : String) (o : zO) : List Cond := match o.1 with
  | .ldc i => [.constant own i (Int32.ofInt o.2.2.1)]
  | .ldc_w i => [.constant own i (Int32.ofInt o.2.2.1)]
  | .ldc2_w i => [.constantLong own i (Int64.ofInt o.2.2.1)]
  | .getfield i => o.2.2.2.flatMap (zneedF own i)
  | .putfield i => o.2.2.2.flatMap (zneedF own i)
  | .new i => o.2.2.2.flatMap fun q => [.classLink own i (zC q.1), .instantiable (zC q.1) (zNF q.1), .initialized (zC q.1)]
  | .newarray _ => [.arrayClass .int]
  | .anewarray i => [.classLink own i (zC (zcomp o.2.2.1.toNat))]
  | .instanceof i => o.2.2.2.map fun q => .classLink own i q.2.2.2.1
  | .invokestatic i => if o.2.2.1 = -2 then [.methodLink own i arraycopyName, .native arraycopyName, .static arraycopyName, .initialized "java/lang/System"] else if o.2.2.1 = -3 then [.methodLink own i Lib.Math.max.name, .static Lib.Math.max.name, .initialized "java/lang/Math", .code Lib.Math.max.name Lib.Math.max.code 2 (some .int)] else if o.2.2.1 = -4 then [.methodLink own i Lib.Math.min.name, .static Lib.Math.min.name, .initialized "java/lang/Math", .code Lib.Math.min.name Lib.Math.min.code 2 (some .int)] else o.2.2.2.flatMap (zneedC M own i)
  | .invokevirtual i => o.2.2.2.flatMap (zneedC M own i)
  | .invokespecial i => if o.2.2.1 = -1 then [.methodLink own i objectInit, .instanceMethod objectInit, .code objectInit ⟨#[0xb1]⟩ 1 none] else o.2.2.2.flatMap (zneedC M own i)
  | _ => []
/-- words that are told apart: nest mates, casts, arrays over a class -/
def zneedN (M : Nat → zQ) (own : String) (o : zO) : List Cond := match o.1 with
  | .anewarray _ => [.arrayOver (.object (zC (zcomp o.2.2.1.toNat)))]
  | .instanceof _ => o.2.2.2.flatMap fun q => if q.2.2.1 = 1 then [.castable (zC q.1) q.2.2.2.1] else []
  | .invokestatic i => o.2.2.2.flatMap fun q => if q.2.2.1 = 3 then [.methodLinkNest own i (M q.2.1).1 q.2.2.2.1] else []
  | _ => []
/-- names that must be equal -/
def zeqs (M : Nat → zQ) (own : String) (o : zO) : List (String × String) := match o.1 with
  | .putfield _ => o.2.2.2.flatMap fun q => if (zF q.1 q.2.1).2.2.2 = true then [((zF q.1 q.2.1).1, own)] else []
  | .instanceof _ => o.2.2.2.flatMap fun q => match q.2.2.1 with
    | 0 => [(zC q.1, q.2.2.2.1)]
    | 2 => [(zC q.1, RX8), (q.2.2.2.1, RX5)]
    | 3 => [(zC q.1, RX8), (q.2.2.2.1, RX0)]
    | 4 => [(zC q.1, RX0), (q.2.2.2.1, RX5)]
    | _ => []
  | .invokevirtual _ => o.2.2.2.flatMap fun q => match q.2.2.1 with
    | 0 => [((M q.2.1).1.cls, zC q.1)]
    | 1 => [((M q.2.1).1.cls, q.2.2.2.2)]
    | k => [((M (k - 10)).1.cls, q.2.2.2.2), ((M (k - 10)).1.name, (M q.2.1).1.name), ((M (k - 10)).1.desc, (M q.2.1).1.desc)]
  | _ => []
def zint (pc : Nat) (off : Int) : Bool := decide ((pc : Int) + off = (ztg pc off : Int))
/-- numbers that must fit -/
def zoks (M : Nat → zQ) (nm : String) (ret : Option FieldType) (pc : Nat) (o : zO) : Bool := match o.1 with
  | .goto off => zint pc off
  | .ifCond _ off => zint pc off
  | .if_icmp _ off => zint pc off
  | .ifnull off => zint pc off
  | .ifnonnull off => zint pc off
  | .tableswitch d _ _ offs => zint pc d && offs.toList.all (zint pc)
  | .lookupswitch d ps => (ps.toList.zip (ps.toList.drop 1)).all (fun (a, next) => a.1 < next.1) && zint pc d && ps.toList.all (fun q => zint pc q.2)
  | .getfield _ => o.2.2.2.all fun q => decide (q.1 < 12) && decide (q.2.1 < zNF q.1) && (decide (o.2.2.1 = 2) == !zisI (zTy q.1 q.2.1))
  | .putfield _ => o.2.2.2.all fun q => decide (q.1 < 12) && decide (q.2.1 < zNF q.1) && ((zF q.1 q.2.1).2.2.2 == false || decide (nm = "<init>")) && (decide (o.2.2.1 ≠ 0) || decide (zTy q.1 q.2.1 = .int)) && (decide (o.2.2.1 ≠ 1) || decide (zTy q.1 q.2.1 = .boolean)) && (decide (o.2.2.1 ≠ 2) || (zokT (zTy q.1 q.2.1) && !zisI (zTy q.1 q.2.1)))
  | .new _ => o.2.2.2.all fun q => decide (q.1 < 12) && decide (q.2.1 = zNF q.1)
  | .anewarray _ => decide (13 ≤ o.2.2.1.toNat) && decide (o.2.2.1.toNat ≤ 15)
  | .instanceof _ => o.2.2.2.all fun q => decide (q.1 < 12) && decide (q.2.2.1 < 5) && (if q.2.2.1 < 2 then decide (q.2.1 = 1) else decide (q.2.1 = 0)) && o.2.2.2.all fun q2 => decide (q2.2.2.2.1 = q.2.2.2.1)
  | .invokestatic _ => decide (o.2.2.1 = -2) || decide (o.2.2.1 = -3) || decide (o.2.2.1 = -4) || o.2.2.2.all fun q => (decide (q.2.2.1 = 2) || decide (q.2.2.1 = 3)) && decide ((M q.2.1).2.2.2.1 = o.2.2.1.toNat)
  | .invokevirtual _ => o.2.2.2.all fun q => decide (q.1 < 12) && (decide (q.2.2.1 < 2) || decide (10 ≤ q.2.2.1)) && decide ((M q.2.1).2.2.2.1 = o.2.2.1.toNat)
  | .invokespecial _ => decide (o.2.2.1 = -1) || o.2.2.2.all fun q => (if q.2.2.1 = 4 then decide ((M q.2.1).1.name = "<init>") && decide ((M q.2.1).2.2.2.2.1 = none) else decide (q.2.2.1 = 5) && decide ((M q.2.1).1.name ≠ "<init>")) && decide ((M q.2.1).2.2.2.1 = o.2.2.1.toNat)
  | .ireturn => (decide (o.2.2.1 = 0) && decide (ret = some .int)) || (decide (o.2.2.1 = 1) && decide (ret = some .boolean))
  | .lreturn => decide (ret = some .long)
  | .areturn => match ret with
    | some (.object _) => true
    | some (.array _) => true
    | _ => false
  | .return_ => decide (ret = none)
  | _ => true
/-- how long an instruction is -/
def zlen (o : zO) : Nat := match o.1 with
  | .bipush _ => 2 | .ldc _ => 2 | .iload _ => 2 | .lload _ => 2 | .aload _ => 2 | .istore _ => 2 | .lstore _ => 2 | .astore _ => 2 | .newarray _ => 2
  | .sipush _ => 3 | .ldc_w _ => 3 | .ldc2_w _ => 3 | .iinc _ _ => 3 | .ifCond _ _ => 3 | .if_icmp _ _ => 3 | .ifnull _ => 3 | .ifnonnull _ => 3 | .goto _ => 3
  | .getfield _ => 3 | .putfield _ => 3 | .new _ => 3 | .anewarray _ => 3 | .instanceof _ => 3 | .invokestatic _ => 3 | .invokevirtual _ => 3 | .invokespecial _ => 3
  | .tableswitch _ _ _ _ => o.2.1
  | .lookupswitch _ _ => o.2.1
  | _ => 1
/-- all that a method's instructions need is there -/
def zTok (M : Nat → zQ) (own nm : String) (cc : ByteArray) (ret : Option FieldType) (tab : List (Nat × zO)) : Prop := ∀ q ∈ tab,
  decode cc q.1 = .ok (q.2.1, zlen q.2) ∧ (∀ w ∈ zneed M own q.2, w ∈ zGood) ∧ (∀ w ∈ zneedN M own q.2, w ∈ lw_tbl) ∧ (∀ z ∈ zeqs M own q.2, z.1 = z.2) ∧ zoks M nm ret q.1 q.2 = true
def zMok (M : Nat → zQ) (mid : Nat) : Prop := zTok M (M mid).1.cls (M mid).1.name (M mid).2.1 (M mid).2.2.2.2.1 (M mid).2.2.2.2.2 ∧ plainName (M mid).1.cls = true ∧ ((M mid).1.cls ≠ "java/lang/invoke/MethodHandle" ∧ (M mid).1.cls ≠ "java/lang/invoke/VarHandle") ∧ (parseMethodDescriptor (M mid).1.desc).map (fun d => d.parameters.length) = some (M mid).2.2.2.1 ∧ (M mid).2.2.1 ≤ 20
def zwsM (M : Nat → zQ) (mid : Nat) : List Cond := zcode M mid :: zGood
theorem zGood_good {w : Cond} (h : w ∈ zGood) : goodWord w = true := (List.mem_filter.mp h).2
theorem zGoodIn {ws : List Cond} (h : ∀ w ∈ ws, w ∈ zGood) : GoodIn zGood ws := fun w hw => ⟨h w hw, good_of_word (zGood_good (h w hw))⟩
theorem zwsM_in {M : Nat → zQ} {mid : Nat} (h : zcode M mid ∈ zGood) : ∀ w ∈ zwsM M mid, w ∈ zGood := fun w hw => (List.mem_cons.mp hw).elim (fun e => e ▸ h) id
def zrm (d mc ms : Nat) : Room := { frames := d, cells := mc, slots := ms, locals := 40 * d }
def zPc (b B L : Nat) (xs : Nat → Int32) (dC : Nat → ClassId) (dI : Nat → Nat → Nat) (cA : Nat → ClassId) (as : List zV) (h : zH) : Array Value → State → Prop := fun v U => v = (as.map (ztr b B)).toArray ∧ zRep b B L xs dC dI cA h U.heap ∧ zK dC dI cA U ∧ va_X b L xs U U.heap ∧ B ≤ U.heap.size
def zQc (b B L : Nat) (xs : Nat → Int32) (dC : Nat → ClassId) (dI : Nat → Nat → Nat) (cA : Nat → ClassId) (r : zR) : Array Value → State → Outcome → State → Prop := fun _ st oc t => oc = .returned (r.1.map (ztr b B)) ∧ zRep b B L xs dC dI cA r.2 t.heap ∧ va_F (fun q => B ≤ q) st t
theorem zPc_blind {b B L : Nat} {xs : Nat → Int32} {dC : Nat → ClassId} {dI : Nat → Nat → Nat} {cA : Nat → ClassId} {as : List zV} {h : zH} : FrameBlind (zPc b B L xs dC dI cA as h) := by
  intro a U g mk q
  obtain ⟨q1, q2, q3, q4, q5⟩ := q
  exact ⟨q1, q2, zK.moved (s := U) (U := U.calling g mk a) (State.WarmedH.refl U) q3, va_X.moved (u := U) (U := U.calling g mk a) (Vm.Alike.refl U.vm) q4, q5⟩
/-- what a call answers as a contract -/
def zMet (M : Nat → zQ) (l : Launch) (b B L : Nat) (xs : Nat → Int32) (dC : Nat → ClassId) (dI : Nat → Nat → Nat) (cA : Nat → ClassId) (d : Nat) : Prop := ∀ (mid : Nat) (as : List zV) (h : zH) (r : zR), zcall (zP M) d mid as h = some r →
  (zn h ≤ zn r.2 ∧ zu h ≤ zu r.2) ∧ (zcode M mid ∈ zGood → Met l (M mid).1 (zwsM M mid) (zrm d (zn r.2 - zn h) (zu r.2 - zu h)) (zPc b B L xs dC dI cA as h) (zQc b B L xs dC dI cA r) (zn r.2 - zn h) (zu r.2 - zu h) (fun q => B ≤ q))
end
section
/-! calls are sound; a method's run is sound -/
section ZSND
variable {p : Program} {l : Launch} {e : Env} {R : Room} {s : State} {m : MethodId} {args : Array Value} {below : List Frame} {meth : Method} {c : Code} {Q : State → Prop} {cc : ByteArray} {own nm : String} {nL b B L n0 u0 d : Nat} {xs : Nat → Int32} {dC : Nat → ClassId} {dI : Nat → Nat → Nat} {cA : Nat → ClassId} {M : Nat → zQ}
variable {pc : Nat} {ls : zL} {st : List zV} {h : zH} {y : zS}
theorem zs_pre (C : zCx p s m args meth c cc own nm nL b B L xs dC dI cA) {as : List zV} {H : Heap} {locs : List Loc} (hR : zRep b B L xs dC dI cA h H) (hS : va_S (fun q => B ≤ q) s.heap H locs) : ∀ U : State, U.heap = H → s.WarmedH U.vm → zPc b B L xs dC dI cA as h (as.map (ztr b B)).toArray U := by
  obtain ⟨-, -, -, -, -, hK, hX, hbB, hBs, -⟩ := C
  intro U hU hW
  refine ⟨rfl, by rw [hU]; exact hR, hK.moved hW, ?_, by rw [hU]; exact Nat.le_trans hBs hS.1⟩
  rw [hU]
  exact va_X.moved hW.alike (hX.kept (hS.2.1 b (Nat.lt_of_lt_of_le hbB hBs) (Nat.not_le.mpr hbB)))
theorem zs_back {r : zR} {H : Heap} {locs : List Loc} {la : Array Slot} {ce sl mc ms : Nat} {st0 rest : List Value} {a : Array Value} (hr : va_Run p l e R s m args below meth c H locs ce sl mc ms (F0 m pc la st0) rest (zQc b B L xs dC dI cA r a) (fun q => B ≤ q)) (hS : va_S (fun q => B ≤ q) s.heap H locs)
    (kk : ∀ (H1 : Heap) (locs1 : List Loc), zRep b B L xs dC dI cA r.2 H1 → va_S (fun q => B ≤ q) s.heap H1 locs1 → W p l e R s m args below meth c H1 locs1 (ce + mc) (sl + ms) Q (F0 m (pc + 3) la ((r.1.map (ztr b B)).toList ++ rest))) : W p l e R s m args below meth c H locs ce sl Q (F0 m pc la st0) := by
  intro T hT X
  obtain ⟨v, st₀, t, T', L', h0, X', hL, e1, e2, ⟨hv, hR1, hz, hk⟩, st⟩ := hr T hT X
  cases hv
  rw [h0] at hz hk
  obtain ⟨t2, a1, b1⟩ := kk T'.heap (locs ++ L') (by rw [e1]; exact hR1) ⟨Nat.le_trans hS.1 (by rw [e1]; exact hz), fun q h1 h2 => by rw [e1, hk q (Nat.lt_of_lt_of_le h1 hS.1) h2]; exact hS.2.1 q h1 h2, fun q hq => by
      rcases List.mem_append.mp hq with h | h
      · exact hS.2.2 q h
      · exact hL q h⟩ T' rfl X'
  exact ⟨t2, st t2 a1, b1⟩
/-- the end of a call, from the machine's answer -/
theorem zs_end {r : zR} {rest : List zV} (hle : n0 ≤ zn h) (hu : u0 ≤ zu h) (hm : zn h ≤ zn r.2 ∧ zu h ≤ zu r.2) {H : Heap} {locs : List Loc} {la : Array Slot} {st0 : List Value} {a : Array Value} (hS : va_S (fun q => B ≤ q) s.heap H locs) (hl : zLV b B la nL ls)
    (hr : va_Run p l e R s m args below meth c H locs (zn h - n0) (zu h - u0) (zn r.2 - zn h) (zu r.2 - zu h) (F0 m pc la st0) (rest.map (ztr b B)) (zQc b B L xs dC dI cA r a) (fun q => B ≤ q))
    (hW : zWA p l e R s m args below meth c Q b B L xs dC dI cA n0 u0 nL (pc + 3, ls, r.1.toList ++ rest, r.2)) : W p l e R s m args below meth c H locs (zn h - n0) (zu h - u0) Q (F0 m pc la st0) := by
  refine zs_back hr hS fun H1 locs1 hR1 hS1 => ?_
  have K := hW H1 locs1 la hR1 hS1 hl
  refine W.cs (cells' := zn r.2 - n0) (slots' := zu r.2 - u0) (by omega) (by omega) ?_
  dsimp only at K
  rw [List.map_append] at K
  have e : (r.1.map (ztr b B)).toList = r.1.toList.map (ztr b B) := by cases r.1 <;> rfl
  rw [e]
  exact K
theorem zs_callS (C : zCx p s m args meth c cc own nm nL b B L xs dC dI cA) (hok : ∀ mid, zMok M mid) (hM : zMet M l b B L xs dC dI cA d) (hfr : d + 1 ≤ R.frames) (hlo : 40 * d + 40 ≤ R.locals) (hle : n0 ≤ zn h) (hu : u0 ≤ zu h) {o : zO} {idx : Nat} (ho1 : o.1 = .invokestatic idx) (hflag : o.2.2.1 ≠ -2 ∧ o.2.2.1 ≠ -3 ∧ o.2.2.1 ≠ -4) (hdg : decode cc pc = .ok (.invokestatic idx, 3))
    (hw : ∀ w ∈ zneed M own o, w ∈ zGood) (hwn : ∀ w ∈ zneedN M own o, w ∈ lw_tbl) (hoks : ∀ q ∈ o.2.2.2, (q.2.2.1 = 2 ∨ q.2.2.1 = 3) ∧ (M q.2.1).2.2.2.1 = o.2.2.1.toNat) (hs : zcallS (zcall (zP M) d) o pc ls st h = some (.inr y))
    (hc : zn y.2.2.2 - n0 ≤ R.cells) (hsl : zu y.2.2.2 - u0 ≤ R.slots)
    (hW : zWA p l e R s m args below meth c Q b B L xs dC dI cA n0 u0 nL y) : zWA p l e R s m args below meth c Q b B L xs dC dI cA n0 u0 nL (pc, ls, st, h) := by
  have C0 := C
  obtain ⟨hx, hb, hml, hown, hts, hK, -⟩ := C
  unfold zcallS at hs
  split at hs
  · rename_i q hq
    have hq1 : q ∈ o.2.2.2 := by rw [hq]; exact List.mem_singleton.mpr rfl
    obtain ⟨hmode, hnp⟩ := hoks q hq1
    split at hs
    · rename_i hlen
      unfold zback at hs
      cases hcall : zcall (zP M) d q.2.1 (st.take o.2.2.1.toNat).reverse h with
      | none => rw [hcall] at hs; cases hs
      | some r =>
        rw [hcall] at hs
        simp only [Option.bind_some, zgo, Option.some.injEq, Sum.inr.injEq] at hs
        subst hs
        dsimp only at hc hsl
        obtain ⟨hm, hmet⟩ := hM _ _ _ _ hcall
        obtain ⟨-, -, hmh, hpar, hmaxL⟩ := hok q.2.1
        intro H locs la hR hS hl
        have hR : zRep b B L xs dC dI cA h H := hR
        have hstack : (st.map (ztr b B)) = (((st.take o.2.2.1.toNat).reverse.map (ztr b B))).reverse ++ (st.drop o.2.2.1.toNat).map (ztr b B) := by
          rw [List.map_reverse, List.reverse_reverse, ← List.map_append, List.take_append_drop]
        have hn : ((st.take o.2.2.1.toNat).reverse.map (ztr b B)).length = (M q.2.1).2.2.2.1 := by
          rw [hnp]
          simp
          omega
        have hneed : ∀ w ∈ zneedC M own idx q, w ∈ zGood := fun w hw2 => hw w (by
          unfold zneed
          rw [ho1]
          dsimp only
          rw [if_neg hflag.1, if_neg hflag.2.1, if_neg hflag.2.2]
          exact List.mem_flatMap.mpr ⟨q, hq1, hw2⟩)
        rcases hmode with hmode | hmode
        · unfold zneedC at hneed
          rw [hmode] at hneed
          try dsimp only at hneed
          have hcd : zcode M q.2.1 ∈ zGood := hneed _ (by simp)
          refine zs_end hle hu hm hS hl (va_runS (R := R) (As := (st.take o.2.2.1.toNat).reverse.map (ztr b B)) (rest := (st.drop o.2.2.1.toNat).map (ztr b B)) (n := (M q.2.1).2.2.2.1) ⟨hx, hb, hml, hown, hts⟩ (hmet hcd) (va_cwS (M q.2.1).2.2.2.1 hts (zGoodIn ?_) rfl rfl rfl ⟨hmh.1, hmh.2, hpar⟩ ⟨hfr, ?_⟩) ⟨zPc_blind, zs_pre C0 hR hS⟩ rfl hn hl.1 hstack (lv_room (zcatsum0 b B _ (by simp; omega))) hdg ⟨by omega, by omega⟩) hW
          · intro w hw2
            rcases List.mem_append.mp hw2 with h1 | h1
            · exact hneed w (by
                simp only [List.mem_cons, List.not_mem_nil, or_false] at h1 ⊢
                rcases h1 with h1 | h1 | h1 <;> simp [h1])
            · exact zwsM_in hcd w h1
          · show 8 + ((M q.2.1).2.2.1 + 11) + 40 * d ≤ R.locals
            omega
        · unfold zneedC at hneed
          rw [hmode] at hneed
          try dsimp only at hneed
          have hcd : zcode M q.2.1 ∈ zGood := hneed _ (by simp)
          have hnw : va_Nw (.methodLinkNest own idx (M q.2.1).1 q.2.2.2.1) s := hK.2.1 _ (hwn _ (by
            unfold zneedN
            rw [ho1]
            dsimp only
            exact List.mem_flatMap.mpr ⟨q, hq1, by rw [if_pos hmode]; exact List.mem_singleton.mpr rfl⟩)) rfl
          refine zs_end hle hu hm hS hl (va_runSN (R := R) (host := q.2.2.2.1) (As := (st.take o.2.2.1.toNat).reverse.map (ztr b B)) (rest := (st.drop o.2.2.1.toNat).map (ztr b B)) (n := (M q.2.1).2.2.2.1) ⟨hx, hb, hml, hown, hts⟩ (hmet hcd) ⟨va_cnB (M q.2.1).2.2.2.1 hts (zGoodIn (zwsM_in hcd)) rfl rfl rfl hnw (hts _ (hneed _ (by simp))) ⟨hmh.1, hmh.2, hpar⟩ ⟨hfr, ?_⟩, hts _ (hneed _ (by simp)), trivial⟩ ⟨zPc_blind, zs_pre C0 hR hS⟩ rfl hn hl.1 hstack (lv_room (zcatsum0 b B _ (by simp; omega))) hdg ⟨by omega, by omega⟩) hW
          show 8 + ((M q.2.1).2.2.1 + 11) + 40 * d ≤ R.locals
          omega
    · cases hs
  · cases hs
theorem zs_callV (C : zCx p s m args meth c cc own nm nL b B L xs dC dI cA) (hok : ∀ mid, zMok M mid) (hM : zMet M l b B L xs dC dI cA d) (hfr : d + 1 ≤ R.frames) (hlo : 40 * d + 40 ≤ R.locals) (hle : n0 ≤ zn h) (hu : u0 ≤ zu h) {o : zO} {idx : Nat} (ho1 : o.1 = .invokevirtual idx) (hdg : decode cc pc = .ok (.invokevirtual idx, 3))
    (hw : ∀ w ∈ zneed M own o, w ∈ zGood) (heq : ∀ z ∈ zeqs M own o, z.1 = z.2) (hoks : ∀ q ∈ o.2.2.2, q.1 < 12 ∧ (q.2.2.1 < 2 ∨ 10 ≤ q.2.2.1) ∧ (M q.2.1).2.2.2.1 = o.2.2.1.toNat) (hs : zcallV (zcall (zP M) d) o pc ls st h = some (.inr y))
    (hc : zn y.2.2.2 - n0 ≤ R.cells) (hsl : zu y.2.2.2 - u0 ≤ R.slots)
    (hW : zWA p l e R s m args below meth c Q b B L xs dC dI cA n0 u0 nL y) : zWA p l e R s m args below meth c Q b B L xs dC dI cA n0 u0 nL (pc, ls, st, h) := by
  have C0 := C
  obtain ⟨hx, hb, hml, hown, hts, hK, -⟩ := C
  unfold zcallV at hs
  split at hs
  · rename_i a rest hdrop
    split at hs
    · rename_i hlen
      cases hf : zfind o.2.2.2 (zk h a).1 with
      | none => rw [hf] at hs; cases hs
      | some mid =>
        rw [hf, Option.bind_some] at hs
        obtain ⟨q, hq1, e1, e2⟩ := zfind_mem hf
        obtain ⟨ht, hmode, hnp⟩ := hoks q hq1
        unfold zback at hs
        cases hcall : zcall (zP M) d mid (.inr (.inr (some a)) :: (st.take o.2.2.1.toNat).reverse) h with
        | none => rw [hcall] at hs; cases hs
        | some r =>
          rw [hcall] at hs
          simp only [Option.bind_some, zgo, Option.some.injEq, Sum.inr.injEq] at hs
          subst hs
          dsimp only at hc hsl
          subst e2
          obtain ⟨hm, hmet⟩ := hM _ _ _ _ hcall
          obtain ⟨-, -, hmh, hpar, hmaxL⟩ := hok q.2.1
          intro H locs la hR hS hl
          have hR : zRep b B L xs dC dI cA h H := hR
          have hnlen : o.2.2.1.toNat ≤ st.length := by
            have h3 := congrArg List.length hdrop
            simp only [List.length_drop, List.length_cons] at h3
            omega
          have hstack : (st.map (ztr b B)) = (((st.take o.2.2.1.toNat).reverse.map (ztr b B))).reverse ++ .ref (zadr b B a) :: rest.map (ztr b B) := by
            rw [List.map_reverse, List.reverse_reverse]
            have h3 : st = st.take o.2.2.1.toNat ++ (.inr (.inr (some a)) :: rest) := by rw [← hdrop, List.take_append_drop]
            conv => lhs; rw [h3]
            rw [List.map_append]
            rfl
          have hn : ((st.take o.2.2.1.toNat).reverse.map (ztr b B)).length = (M q.2.1).2.2.2.1 := by
            rw [hnp]
            simp
            omega
          have hneed : ∀ w ∈ zneedC M own idx q, w ∈ zGood := fun w hw2 => hw w (by
            unfold zneed
            rw [ho1]
            dsimp only
            exact List.mem_flatMap.mpr ⟨q, hq1, hw2⟩)
          obtain ⟨a1, a2⟩ := hR.in (a := a) (by omega)
          have he := zws_get b B cA h a1 a2
          rw [zcell_obj (by omega)] at he
          have hrec := va_recv hK.1 hR.1 (zcl_at _ (by omega)) he
          have hrec : ∃ cell : Cell, H[zadr b B a]? = some cell ∧ cell.vm.isStatics = false ∧ s.vm.findClass (zC q.1) = some cell.cls := by rw [e1]; exact hrec
          have hloc : 8 + ((M q.2.1).2.2.1 + 11) + (zrm d (zn r.2 - zn h) (zu r.2 - zu h)).locals ≤ R.locals := by
            show 8 + ((M q.2.1).2.2.1 + 11) + 40 * d ≤ R.locals
            omega
          have hpreV : PreV s H (zC q.1) (zadr b B a) (zPc b B L xs dC dI cA (.inr (.inr (some a)) :: (st.take o.2.2.1.toNat).reverse) h) ((st.take o.2.2.1.toNat).reverse.map (ztr b B)) := ⟨zPc_blind, hrec, zs_pre C0 hR hS⟩
          have heqs : ∀ z ∈ (match q.2.2.1 with
            | 0 => [((M q.2.1).1.cls, zC q.1)]
            | 1 => [((M q.2.1).1.cls, q.2.2.2.2)]
            | k => [((M (k - 10)).1.cls, q.2.2.2.2), ((M (k - 10)).1.name, (M q.2.1).1.name), ((M (k - 10)).1.desc, (M q.2.1).1.desc)]), z.1 = z.2 := fun z hz => heq z (by
            unfold zeqs
            rw [ho1]
            dsimp only
            exact List.mem_flatMap.mpr ⟨q, hq1, hz⟩)
          unfold zneedC at hneed
          rcases (show q.2.2.1 = 0 ∨ q.2.2.1 = 1 ∨ 10 ≤ q.2.2.1 by omega) with hmo | hmo | hmo
          · rw [hmo] at hneed heqs
            try dsimp only at hneed heqs
            have hcd : zcode M q.2.1 ∈ zGood := hneed _ (by simp)
            refine zs_end hle hu hm hS hl (va_runV (R := R) (C := zC q.1) (As := (st.take o.2.2.1.toNat).reverse.map (ztr b B)) (rest := rest.map (ztr b B)) (n := (M q.2.1).2.2.2.1) ⟨hx, hb, hml, hown, hts⟩ (hmet hcd) (cwV (M q.2.1).2.2.2.1 hts (zGoodIn ?_) rfl rfl rfl ⟨heqs ((M q.2.1).1.cls, zC q.1) (List.mem_singleton.mpr rfl), hmh.1, hmh.2, hpar⟩ ⟨hfr, hloc⟩) hpreV rfl hn hl.1 hstack (lv_room (zcatsum0 b B _ hlen)) hdg ⟨by omega, by omega⟩) hW
            intro w hw2
            rcases List.mem_append.mp hw2 with h1 | h1
            · exact hneed w (by
                simp only [List.mem_cons, List.not_mem_nil, or_false] at h1 ⊢
                rcases h1 with h1 | h1 | h1 | h1 <;> simp [h1])
            · exact zwsM_in hcd w h1
          · rw [hmo] at hneed heqs
            try dsimp only at hneed heqs
            have hcd : zcode M q.2.1 ∈ zGood := hneed _ (by simp)
            have hyc : (M q.2.1).1.cls = q.2.2.2.2 := heqs _ (List.mem_singleton.mpr rfl)
            refine zs_end hle hu hm hS hl (va_runU (R := R) (C := zC q.1) (owner := q.2.2.2.2) (x := zxn M q) (As := (st.take o.2.2.1.toNat).reverse.map (ztr b B)) (rest := rest.map (ztr b B)) (n := (M q.2.1).2.2.2.1) ⟨hx, hb, hml, hown, hts⟩ (hmet hcd) (va_cwU (M q.2.1).2.2.2.1 hts (zGoodIn ?_) rfl rfl rfl ?_ ⟨by rw [← hyc]; exact hmh.1, by rw [← hyc]; exact hmh.2, hpar⟩ ⟨hfr, hloc⟩) hpreV rfl hn hl.1 hstack (lv_room (zcatsum0 b B _ hlen)) hdg ⟨by omega, by omega⟩) hW
            · intro w hw2
              rcases List.mem_append.mp hw2 with h1 | h1
              · exact hneed w (by
                  simp only [List.mem_cons, List.not_mem_nil, or_false] at h1 ⊢
                  rcases h1 with h1 | h1 | h1 | h1 | h1 <;> simp [h1] <;> simp [zxn])
              · exact zwsM_in hcd w h1
            · rw [← hyc]
              rfl
          · obtain ⟨k, hk⟩ : ∃ k, q.2.2.1 = k + 10 := ⟨q.2.2.1 - 10, by omega⟩
            rw [hk] at hneed heqs
            try dsimp only at hneed heqs
            have hcd : zcode M q.2.1 ∈ zGood := hneed _ (by simp)
            have hz1 := heqs ((M (k + 10 - 10)).1.cls, q.2.2.2.2) (by simp)
            have hz2 := heqs ((M (k + 10 - 10)).1.name, (M q.2.1).1.name) (by simp)
            have hz3 := heqs ((M (k + 10 - 10)).1.desc, (M q.2.1).1.desc) (by simp)
            dsimp only at hz1 hz2 hz3
            obtain ⟨-, -, hmh0, -⟩ := hok (k + 10 - 10)
            have hcd0 : Cond.code (⟨q.2.2.2.2, (zxn M q).name, (zxn M q).desc⟩ : MethodName) (M (k + 10 - 10)).2.1 (M (k + 10 - 10)).2.2.1 (M (k + 10 - 10)).2.2.2.2.1 ∈ zGood := by
              have h4 := hneed (zcode M (k + 10 - 10)) (by simp)
              have h5 : (⟨q.2.2.2.2, (zxn M q).name, (zxn M q).desc⟩ : MethodName) = (M (k + 10 - 10)).1 := by
                show (⟨q.2.2.2.2, (M q.2.1).1.name, (M q.2.1).1.desc⟩ : MethodName) = _
                rw [← hz1, ← hz2, ← hz3]
              rw [h5]
              exact h4
            refine zs_end hle hu hm hS hl (va_runU (R := R) (C := zC q.1) (owner := q.2.2.2.2) (x := zxn M q) (As := (st.take o.2.2.1.toNat).reverse.map (ztr b B)) (rest := rest.map (ztr b B)) (n := (M q.2.1).2.2.2.1) ⟨hx, hb, hml, hown, hts⟩ (hmet hcd) (va_cwO (M q.2.1).2.2.2.1 hts (zGoodIn ?_) rfl rfl rfl hcd0 ⟨by rw [← hz1]; exact hmh0.1, by rw [← hz1]; exact hmh0.2, hpar⟩ ⟨hfr, hloc⟩) hpreV rfl hn hl.1 hstack (lv_room (zcatsum0 b B _ hlen)) hdg ⟨by omega, by omega⟩) hW
            intro w hw2
            rcases List.mem_append.mp hw2 with h1 | h1
            · exact hneed w (by
                simp only [List.mem_cons, List.not_mem_nil, or_false] at h1 ⊢
                rcases h1 with h1 | h1 | h1 | h1 | h1 | h1 <;> simp [h1] <;> simp [zxn, zown])
            · exact zwsM_in hcd w h1
    · cases hs
  · cases hs
theorem zs_callI (C : zCx p s m args meth c cc own nm nL b B L xs dC dI cA) (hok : ∀ mid, zMok M mid) (hM : zMet M l b B L xs dC dI cA d) (hfr : d + 1 ≤ R.frames) (hlo : 40 * d + 40 ≤ R.locals) (hle : n0 ≤ zn h) (hu : u0 ≤ zu h) {o : zO} {idx : Nat} (ho1 : o.1 = .invokespecial idx) (hdg : decode cc pc = .ok (.invokespecial idx, 3))
    (hw : ∀ w ∈ zneed M own o, w ∈ zGood) (hoks : o.2.2.1 = -1 ∨ ∀ q ∈ o.2.2.2, ((q.2.2.1 = 4 ∧ (M q.2.1).1.name = "<init>" ∧ (M q.2.1).2.2.2.2.1 = none) ∨ (q.2.2.1 = 5 ∧ (M q.2.1).1.name ≠ "<init>")) ∧ (M q.2.1).2.2.2.1 = o.2.2.1.toNat) (hs : zcallI (zcall (zP M) d) o pc ls st h = some (.inr y))
    (hc : zn y.2.2.2 - n0 ≤ R.cells) (hsl : zu y.2.2.2 - u0 ≤ R.slots)
    (hW : zWA p l e R s m args below meth c Q b B L xs dC dI cA n0 u0 nL y) : zWA p l e R s m args below meth c Q b B L xs dC dI cA n0 u0 nL (pc, ls, st, h) := by
  have C0 := C
  obtain ⟨hx, hb, hml, hown, hts, hK, -⟩ := C
  unfold zcallI at hs
  split at hs
  · rename_i hflag
    have hneed : ∀ w ∈ ([.methodLink own idx objectInit, .instanceMethod objectInit, .code objectInit ⟨#[0xb1]⟩ 1 none] : List Cond), w ∈ zGood := fun w hw2 => hw w (by
      unfold zneed
      rw [ho1]
      dsimp only
      rw [if_pos hflag]
      exact hw2)
    split at hs
    · rename_i a rest
      split at hs
      · rename_i hlen
        simp only [zgo, Option.some.injEq, Sum.inr.injEq] at hs
        subst hs
        intro H locs la hR hS hl
        refine W.objInit hx hb hown (hts _ (hneed _ (by simp))) (hts _ (hneed _ (by simp))) (hts _ (hneed _ (by simp))) rfl (by rw [hml]; exact hl.1) (rest := rest.map (ztr b B)) rfl hdg (by omega) ?_ (hW H locs la hR hS hl)
        have h4 := zcatsum0 b B rest hlen
        show 2 * 0 + _ + 12 ≤ R.locals
        omega
      · cases hs
    · cases hs
  · rename_i hflag
    split at hs
    · rename_i q0 a rest hq hdrop
      have hq1 : q0 ∈ o.2.2.2 := by rw [hq]; exact List.mem_singleton.mpr rfl
      obtain ⟨hmode, hnp⟩ := (hoks.resolve_left hflag) q0 hq1
      split at hs
      · rename_i hlen
        unfold zback at hs
        cases hcall : zcall (zP M) d q0.2.1 (.inr (.inr (some a)) :: (st.take o.2.2.1.toNat).reverse) h with
        | none => rw [hcall] at hs; cases hs
        | some r =>
          rw [hcall] at hs
          simp only [Option.bind_some, zgo, Option.some.injEq, Sum.inr.injEq] at hs
          subst hs
          dsimp only at hc hsl
          obtain ⟨hm, hmet⟩ := hM _ _ _ _ hcall
          obtain ⟨-, -, hmh, hpar, hmaxL⟩ := hok q0.2.1
          intro H locs la hR hS hl
          have hR : zRep b B L xs dC dI cA h H := hR
          have hnlen : o.2.2.1.toNat ≤ st.length := by
            have h3 := congrArg List.length hdrop
            simp only [List.length_drop, List.length_cons] at h3
            omega
          have hstack : (st.map (ztr b B)) = (((st.take o.2.2.1.toNat).reverse.map (ztr b B))).reverse ++ .ref (zadr b B a) :: rest.map (ztr b B) := by
            rw [List.map_reverse, List.reverse_reverse]
            have h3 : st = st.take o.2.2.1.toNat ++ (.inr (.inr (some a)) :: rest) := by rw [← hdrop, List.take_append_drop]
            conv => lhs; rw [h3]
            rw [List.map_append]
            rfl
          have hn : ((st.take o.2.2.1.toNat).reverse.map (ztr b B)).length = (M q0.2.1).2.2.2.1 := by
            rw [hnp]
            simp
            omega
          have hneed : ∀ w ∈ zneedC M own idx q0, w ∈ zGood := fun w hw2 => hw w (by
            unfold zneed
            rw [ho1]
            dsimp only
            rw [if_neg hflag]
            exact List.mem_flatMap.mpr ⟨q0, hq1, hw2⟩)
          have hloc : 8 + ((M q0.2.1).2.2.1 + 11) + (zrm d (zn r.2 - zn h) (zu r.2 - zu h)).locals ≤ R.locals := by
            show 8 + ((M q0.2.1).2.2.1 + 11) + 40 * d ≤ R.locals
            omega
          unfold zneedC at hneed
          rcases hmode with ⟨hmo, hini, hret⟩ | ⟨hmo, hini⟩
          · rw [hmo] at hneed
            try dsimp only at hneed
            have hcd : zcode M q0.2.1 ∈ zGood := hneed _ (by simp)
            exact zs_end hle hu hm hS hl (va_runI (R := R) (As := (st.take o.2.2.1.toNat).reverse.map (ztr b B)) (rest := rest.map (ztr b B)) (n := (M q0.2.1).2.2.2.1) ⟨hx, hb, hml, hown, hts⟩ (hmet hcd) (cwI (M q0.2.1).2.2.2.1 hts (zGoodIn (zwsM_in hcd)) (by unfold zwsM zcode; rw [hret]) rfl rfl (hts _ (hneed _ (by simp))) (hts _ (hneed _ (by simp))) (hts _ (hneed _ (by simp))) hini ⟨hmh.1, hmh.2, hpar⟩ ⟨hfr, hloc⟩) ⟨zPc_blind, zs_pre C0 hR hS⟩ rfl hn hl.1 hstack (lv_room (zcatsum0 b B _ hlen.1)) hdg ⟨by omega, by omega⟩) hW
          · rw [hmo] at hneed
            try dsimp only at hneed
            have hcd : zcode M q0.2.1 ∈ zGood := hneed _ (by simp)
            obtain ⟨a1, a2⟩ := hR.in (a := a) (by omega)
            have he := zws_get b B cA h a1 a2
            rw [zcell_obj (by omega)] at he
            have hrec := va_recv hK.1 hR.1 (zcl_at _ hlen.2) he
            refine zs_end hle hu hm hS hl (va_runSU (R := R) (C := zC (zk h a).1) (As := (st.take o.2.2.1.toNat).reverse.map (ztr b B)) (rest := rest.map (ztr b B)) (n := (M q0.2.1).2.2.2.1) (hK.1.1 _ _ (zcl_at _ hlen.2)).2 ⟨hx, hb, hml, hown, hts⟩ (hmet hcd) (va_cwSU (M q0.2.1).2.2.2.1 hts (zGoodIn ?_) rfl rfl rfl ⟨hini, hpar⟩ ⟨hfr, hloc⟩) ⟨zPc_blind, hrec, zs_pre C0 hR hS⟩ rfl hn hl.1 hstack (lv_room (zcatsum0 b B _ hlen.1)) hdg ⟨by omega, by omega⟩) hW
            intro w hw2
            rcases List.mem_append.mp hw2 with h1 | h1
            · exact hneed w (by
                simp only [List.mem_cons, List.not_mem_nil, or_false] at h1 ⊢
                rcases h1 with h1 | h1 | h1 | h1 | h1 <;> simp [h1])
            · exact zwsM_in hcd w h1
      · cases hs
    · cases hs
end ZSND
end
section
/-! a step is sound, a run is sound -/
theorem zm_bind {α : Type} {q : Option α} {f : α → zT} {y : zS} (hs : q.bind f = some (.inr y)) : ∃ v, q = some v ∧ f v = some (.inr y) := by
  cases q with
  | none => cases hs
  | some v => exact ⟨v, rfl, hs⟩
theorem zm_go {pc : Nat} {ls : zL} {st : List zV} {h : zH} {y : zS} (hs : zgo pc ls st h = some (.inr y)) : y = (pc, ls, st, h) := by
  simp only [zgo, Option.some.injEq, Sum.inr.injEq] at hs
  exact hs.symm
section ZMONO
variable {cal : Nat → List zV → zH → Option zR} {pc : Nat} {ls : zL} {st : List zV} {h : zH} {y : zS} {o : zO}
theorem zm_op2 {f : Int32 → Int32 → Option Int32} (hs : zop2 f pc ls st h = some (.inr y)) : y.2.2.2 = h := by
  unfold zop2 at hs
  split at hs
  · obtain ⟨v, -, h1⟩ := zm_bind hs
    rw [zm_go h1]
  · cases hs
theorem zm_op2l {f : Int64 → Int64 → Option Int64} (hs : zop2l f pc ls st h = some (.inr y)) : y.2.2.2 = h := by
  unfold zop2l at hs
  split at hs
  · obtain ⟨v, -, h1⟩ := zm_bind hs
    rw [zm_go h1]
  · cases hs
theorem zm_op1 {f : Int32 → zV} (hs : zop1 f pc ls st h = some (.inr y)) : y.2.2.2 = h := by
  unfold zop1 at hs
  split at hs
  · rw [zm_go hs]
  · cases hs
theorem zm_push {k : Nat} {v : zV} (hs : zpush k pc ls st h v = some (.inr y)) : y.2.2.2 = h := by
  simp only [zpush, Option.some.injEq, Sum.inr.injEq] at hs
  rw [← hs]
theorem zm_load {w k i : Nat} (hs : zload w k i pc ls st h = some (.inr y)) : y.2.2.2 = h := by
  unfold zload at hs
  split at hs
  · exact zm_push hs
  · exact zm_push hs
  · exact zm_push hs
  · cases hs
theorem zm_store {w k i : Nat} (hs : zstore w k i pc ls st h = some (.inr y)) : y.2.2.2 = h := by
  unfold zstore at hs
  split at hs
  · split at hs
    · rw [zm_go hs]
    · cases hs
  · split at hs
    · rw [zm_go hs]
    · cases hs
  · split at hs
    · rw [zm_go hs]
    · cases hs
  · cases hs
theorem zm_jump {c : ClassFile.Cond} {off : Int} (hs : zjump c off pc ls st h = some (.inr y)) : y.2.2.2 = h := by
  unfold zjump at hs
  split at hs
  · split at hs <;> rw [zm_go hs]
  · cases hs
theorem zm_jump2 {c : ClassFile.Cond} {off : Int} (hs : zjump2 c off pc ls st h = some (.inr y)) : y.2.2.2 = h := by
  unfold zjump2 at hs
  split at hs
  · split at hs <;> rw [zm_go hs]
  · cases hs
theorem zm_jumpN {z : Bool} {off : Int} (hs : zjumpN z off pc ls st h = some (.inr y)) : y.2.2.2 = h := by
  unfold zjumpN at hs
  split at hs
  · split at hs <;> rw [zm_go hs]
  · cases hs
theorem zm_back {r : List zV} {q : Option zR} (hq : ∀ v, q = some v → zn h ≤ zn v.2 ∧ zu h ≤ zu v.2) (hs : zback pc ls r q = some (.inr y)) : zn h ≤ zn y.2.2.2 ∧ zu h ≤ zu y.2.2.2 := by
  unfold zback at hs
  obtain ⟨v, h1, h2⟩ := zm_bind hs
  rw [zm_go h2]
  exact hq v h1
theorem zm_callS (hc : ∀ mid as h r, cal mid as h = some r → zn h ≤ zn r.2 ∧ zu h ≤ zu r.2) (hs : zcallS cal o pc ls st h = some (.inr y)) : zn h ≤ zn y.2.2.2 ∧ zu h ≤ zu y.2.2.2 := by
  unfold zcallS at hs
  split at hs
  · split at hs
    · exact zm_back (fun v hv => hc _ _ _ _ hv) hs
    · cases hs
  · cases hs
theorem zm_callV (hc : ∀ mid as h r, cal mid as h = some r → zn h ≤ zn r.2 ∧ zu h ≤ zu r.2) (hs : zcallV cal o pc ls st h = some (.inr y)) : zn h ≤ zn y.2.2.2 ∧ zu h ≤ zu y.2.2.2 := by
  unfold zcallV at hs
  split at hs
  · split at hs
    · obtain ⟨mid, -, h1⟩ := zm_bind hs
      exact zm_back (fun v hv => hc _ _ _ _ hv) h1
    · cases hs
  · cases hs
theorem zm_callI (hc : ∀ mid as h r, cal mid as h = some r → zn h ≤ zn r.2 ∧ zu h ≤ zu r.2) (hs : zcallI cal o pc ls st h = some (.inr y)) : zn h ≤ zn y.2.2.2 ∧ zu h ≤ zu y.2.2.2 := by
  unfold zcallI at hs
  split at hs
  · split at hs
    · split at hs
      · rw [zm_go hs]
        exact ⟨Nat.le_refl _, Nat.le_refl _⟩
      · cases hs
    · cases hs
  · split at hs
    · split at hs
      · exact zm_back (fun v hv => hc _ _ _ _ hv) hs
      · cases hs
    · cases hs
theorem zm_same {k : zH} (e : k = h) : zn h ≤ zn k ∧ zu h ≤ zu k := by rw [e]; exact ⟨Nat.le_refl _, Nat.le_refl _⟩
theorem zm_ret (hs : zret o st h = some (.inr y)) : False := by
  unfold zret at hs
  split at hs
  · split at hs <;> cases hs
  · cases hs
  · cases hs
  · cases hs
  · cases hs
theorem zm_step (hc : ∀ mid as h r, cal mid as h = some r → zn h ≤ zn r.2 ∧ zu h ≤ zu r.2) {x : zS} (hs : zstp cal o x = some (.inr y)) : zn x.2.2.2 ≤ zn y.2.2.2 ∧ zu x.2.2.2 ≤ zu y.2.2.2 := by
  unfold zstp at hs
  split at hs
  all_goals first
    | exact zm_same (zm_push hs)
    | exact zm_same (zm_load hs)
    | exact zm_same (zm_store hs)
    | exact zm_same (zm_op2 hs)
    | exact zm_same (zm_op2l hs)
    | exact zm_same (zm_op1 hs)
    | exact zm_same (zm_jump hs)
    | exact zm_same (zm_jump2 hs)
    | exact zm_same (zm_jumpN hs)
    | exact zm_callV hc hs
    | exact zm_callI hc hs
    | exact (zm_ret hs).elim
    | (rw [zm_go hs]; exact ⟨Nat.le_refl _, Nat.le_refl _⟩)
    | skip
  · unfold zinc at hs
    split at hs
    · split at hs
      · rw [zm_go hs]; exact ⟨Nat.le_refl _, Nat.le_refl _⟩
      · cases hs
    · cases hs
  · unfold zlcmp at hs
    split at hs
    · rw [zm_go hs]; exact ⟨Nat.le_refl _, Nat.le_refl _⟩
    · cases hs
  · unfold zdup at hs
    split at hs
    · split at hs
      · rw [zm_go hs]; exact ⟨Nat.le_refl _, Nat.le_refl _⟩
      · cases hs
    · cases hs
  · unfold zdup2 at hs
    split at hs
    · split at hs
      · rw [zm_go hs]; exact ⟨Nat.le_refl _, Nat.le_refl _⟩
      · cases hs
    · cases hs
  · unfold zpop at hs
    split at hs
    · split at hs
      · rw [zm_go hs]; exact ⟨Nat.le_refl _, Nat.le_refl _⟩
      · cases hs
    · cases hs
  · unfold ztab at hs
    split at hs
    · split at hs
      · rw [zm_go hs]; exact ⟨Nat.le_refl _, Nat.le_refl _⟩
      · obtain ⟨v, -, h1⟩ := zm_bind hs
        rw [zm_go h1]; exact ⟨Nat.le_refl _, Nat.le_refl _⟩
    · cases hs
  · unfold zlook at hs
    split at hs
    · rw [zm_go hs]; exact ⟨Nat.le_refl _, Nat.le_refl _⟩
    · cases hs
  · unfold zget at hs
    split at hs
    · obtain ⟨v, -, h1⟩ := zm_bind hs
      split at h1 <;> (rw [zm_go h1]; exact ⟨Nat.le_refl _, Nat.le_refl _⟩)
    · cases hs
  · unfold zput at hs
    split at hs
    · obtain ⟨v, -, h1⟩ := zm_bind hs
      split at h1
      · rw [zm_go h1]; exact ⟨Nat.le_refl _, Nat.le_refl _⟩
      · cases h1
    · obtain ⟨v, -, h1⟩ := zm_bind hs
      split at h1
      · rw [zm_go h1]; exact ⟨Nat.le_refl _, Nat.le_refl _⟩
      · cases h1
    · cases hs
  · unfold zald at hs
    split at hs
    · split at hs
      · obtain ⟨v, -, h1⟩ := zm_bind hs
        rw [zm_go h1]; exact ⟨Nat.le_refl _, Nat.le_refl _⟩
      · cases hs
    · cases hs
  · unfold zast at hs
    split at hs
    · split at hs
      · obtain ⟨v, -, h1⟩ := zm_bind hs
        rw [zm_go h1]; exact ⟨Nat.le_refl _, Nat.le_refl _⟩
      · cases hs
    · cases hs
  · unfold zaald at hs
    split at hs
    · split at hs
      · obtain ⟨v, -, h1⟩ := zm_bind hs
        rw [zm_go h1]; exact ⟨Nat.le_refl _, Nat.le_refl _⟩
      · cases hs
    · cases hs
  · unfold zaast at hs
    split at hs
    · split at hs
      · obtain ⟨v, -, h1⟩ := zm_bind hs
        rw [zm_go h1]; exact ⟨Nat.le_refl _, Nat.le_refl _⟩
      · cases hs
    · cases hs
  · unfold zalen at hs
    split at hs
    · split at hs
      · rw [zm_go hs]; exact ⟨Nat.le_refl _, Nat.le_refl _⟩
      · cases hs
    · cases hs
  · unfold znew at hs
    split at hs
    · rw [zm_go hs]; exact ⟨Nat.le_succ _, Nat.le_add_right _ _⟩
    · cases hs
  · unfold znewa at hs
    split at hs
    · split at hs
      · cases hs
      · rw [zm_go hs]; exact ⟨Nat.le_succ _, Nat.le_add_right _ _⟩
    · cases hs
  · unfold znewa at hs
    split at hs
    · split at hs
      · cases hs
      · rw [zm_go hs]; exact ⟨Nat.le_succ _, Nat.le_add_right _ _⟩
    · cases hs
  · unfold zinst at hs
    split at hs
    · obtain ⟨v, -, h1⟩ := zm_bind hs
      rw [zm_go h1]; exact ⟨Nat.le_refl _, Nat.le_refl _⟩
    · cases hs
  · split at hs
    · unfold zcopy at hs
      split at hs
      · split at hs
        · rw [zm_go hs]; exact ⟨Nat.le_refl _, Nat.le_refl _⟩
        · cases hs
      · cases hs
    · split at hs
      · unfold zmax at hs
        split at hs
        · split at hs
          · rw [zm_go hs]; exact ⟨Nat.le_refl _, Nat.le_refl _⟩
          · cases hs
        · cases hs
      · split at hs
        · unfold zmin at hs
          split at hs
          · split at hs
            · rw [zm_go hs]; exact ⟨Nat.le_refl _, Nat.le_refl _⟩
            · cases hs
          · cases hs
        · exact zm_callS hc hs
  · cases hs
end ZMONO
theorem zl_bind {α : Type} {q : Option α} {f : α → zT} {r : zR} (hs : q.bind f = some (.inl r)) : ∃ v, f v = some (.inl r) := by
  cases q with
  | none => cases hs
  | some v => exact ⟨v, hs⟩
theorem zl_go {pc : Nat} {ls : zL} {st : List zV} {h : zH} {r : zR} (hs : zgo pc ls st h = some (.inl r)) : False := by
  simp [zgo] at hs
theorem zm_end {cal : Nat → List zV → zH → Option zR} {o : zO} {x : zS} {r : zR} (hs : zstp cal o x = some (.inl r)) : zret o x.2.2.1 x.2.2.2 = some (.inl r) := by
  unfold zstp at hs
  split at hs
  all_goals first
    | exact hs
    | exact (zl_go hs).elim
    | (exfalso; unfold zpush at hs; cases hs; done)
    | (exfalso; unfold zload at hs; split at hs <;> first | (unfold zpush at hs; cases hs; done) | cases hs; done)
    | (exfalso; unfold zstore at hs; split at hs <;> first | (split at hs <;> first | exact zl_go hs | cases hs) | cases hs)
    | (exfalso; unfold zop2 at hs; split at hs <;> first | (obtain ⟨_, h1⟩ := zl_bind hs; exact zl_go h1) | cases hs)
    | (exfalso; unfold zop2l at hs; split at hs <;> first | (obtain ⟨_, h1⟩ := zl_bind hs; exact zl_go h1) | cases hs)
    | (exfalso; unfold zop1 at hs; split at hs <;> first | exact zl_go hs | cases hs)
    | (exfalso; unfold zjump at hs; split at hs <;> first | (split at hs <;> exact zl_go hs) | cases hs)
    | (exfalso; unfold zjump2 at hs; split at hs <;> first | (split at hs <;> exact zl_go hs) | cases hs)
    | (exfalso; unfold zjumpN at hs; split at hs <;> first | (split at hs <;> exact zl_go hs) | cases hs)
    | (exfalso; unfold zinc at hs; split at hs <;> first | (split at hs <;> first | exact zl_go hs | cases hs) | cases hs)
    | (exfalso; unfold zlcmp at hs; split at hs <;> first | exact zl_go hs | cases hs)
    | (exfalso; unfold zdup at hs; split at hs <;> first | (split at hs <;> first | exact zl_go hs | cases hs) | cases hs)
    | (exfalso; unfold zdup2 at hs; split at hs <;> first | (split at hs <;> first | exact zl_go hs | cases hs) | cases hs)
    | (exfalso; unfold zpop at hs; split at hs <;> first | (split at hs <;> first | exact zl_go hs | cases hs) | cases hs)
    | (exfalso; unfold ztab at hs; split at hs <;> first | (split at hs <;> first | exact zl_go hs | (obtain ⟨_, h1⟩ := zl_bind hs; exact zl_go h1)) | cases hs)
    | (exfalso; unfold zlook at hs; split at hs <;> first | exact zl_go hs | cases hs)
    | (exfalso; unfold zget at hs; split at hs <;> first | (obtain ⟨_, h1⟩ := zl_bind hs; split at h1 <;> exact zl_go h1) | cases hs)
    | (exfalso; unfold zput at hs; split at hs <;> first | (obtain ⟨_, h1⟩ := zl_bind hs; split at h1 <;> first | exact zl_go h1 | cases h1) | cases hs)
    | (exfalso; unfold zald at hs; split at hs <;> first | (split at hs <;> first | (obtain ⟨_, h1⟩ := zl_bind hs; exact zl_go h1) | cases hs) | cases hs)
    | (exfalso; unfold zast at hs; split at hs <;> first | (split at hs <;> first | (obtain ⟨_, h1⟩ := zl_bind hs; exact zl_go h1) | cases hs) | cases hs)
    | (exfalso; unfold zaald at hs; split at hs <;> first | (split at hs <;> first | (obtain ⟨_, h1⟩ := zl_bind hs; exact zl_go h1) | cases hs) | cases hs)
    | (exfalso; unfold zaast at hs; split at hs <;> first | (split at hs <;> first | (obtain ⟨_, h1⟩ := zl_bind hs; exact zl_go h1) | cases hs) | cases hs)
    | (exfalso; unfold zalen at hs; split at hs <;> first | (split at hs <;> first | exact zl_go hs | cases hs) | cases hs)
    | (exfalso; unfold znew at hs; split at hs <;> first | exact zl_go hs | cases hs)
    | (exfalso; unfold znewa at hs; split at hs <;> first | (split at hs <;> first | exact zl_go hs | cases hs) | cases hs)
    | (exfalso; unfold zinst at hs; split at hs <;> first | (obtain ⟨_, h1⟩ := zl_bind hs; exact zl_go h1) | cases hs)
    | (exfalso; unfold zcallV zback at hs; split at hs <;> first | (split at hs <;> first | (obtain ⟨_, h1⟩ := zl_bind hs; obtain ⟨_, h2⟩ := zl_bind h1; exact zl_go h2) | cases hs) | cases hs)
    | (exfalso; unfold zcallI zback at hs; split at hs <;> (split at hs <;> first | (split at hs <;> first | exact zl_go hs | (obtain ⟨_, h1⟩ := zl_bind hs; exact zl_go h1) | cases hs) | cases hs))
    | (exfalso; split at hs; (unfold zcopy at hs; split at hs <;> first | (split at hs <;> first | exact zl_go hs | cases hs) | cases hs); split at hs; (unfold zmax at hs; split at hs <;> first | (split at hs <;> first | exact zl_go hs | cases hs) | cases hs); split at hs; (unfold zmin at hs; split at hs <;> first | (split at hs <;> first | exact zl_go hs | cases hs) | cases hs); (unfold zcallS zback at hs; split at hs <;> first | (split at hs <;> first | (obtain ⟨_, h1⟩ := zl_bind hs; exact zl_go h1) | cases hs) | cases hs))
    | cases hs
theorem zlook_in : ∀ (ps : List (Int × Int)) (d z : Int), Op.lookupswitch.offset ps d z = d ∨ ∃ q ∈ ps, Op.lookupswitch.offset ps d z = q.2
  | [], d, z => Or.inl (by simp [Op.lookupswitch.offset])
  | (a, o) :: r, d, z => by
    rw [Op.lookupswitch.offset_cons]
    split
    · exact Or.inr ⟨(a, o), List.mem_cons_self, rfl⟩
    · rcases zlook_in r d z with h | ⟨q, h1, h2⟩
      · exact Or.inl h
      · exact Or.inr ⟨q, List.mem_cons_of_mem _ h1, h2⟩
section ZSTEP
variable {p : Program} {l : Launch} {e : Env} {R : Room} {s : State} {m : MethodId} {args : Array Value} {below : List Frame} {meth : Method} {c : Code} {Q : State → Prop} {cc : ByteArray} {own nm : String} {nL b B L n0 u0 d : Nat} {xs : Nat → Int32} {dC : Nat → ClassId} {dI : Nat → Nat → Nat} {cA : Nat → ClassId} {M : Nat → zQ}
variable {pc : Nat} {ls : zL} {st : List zV} {h : zH} {y : zS}
set_option maxHeartbeats 4000000 in
theorem zs_step (C : zCx p s m args meth c cc own nm nL b B L xs dC dI cA) (hok : ∀ mid, zMok M mid) (hM : zMet M l b B L xs dC dI cA d) (hfr : d + 1 ≤ R.frames) (hlo : 40 * d + 40 ≤ R.locals) (hn0 : s.heap.size + 1 = B + n0) (hle : n0 ≤ zn h) (hu : u0 ≤ zu h) {ret : Option FieldType} {tab : List (Nat × zO)} (hT : zTok M own nm cc ret tab) {o : zO} (ho : (pc, o) ∈ tab) (hs : zstp (zcall (zP M) d) o (pc, ls, st, h) = some (.inr y))
    (hc : zn y.2.2.2 - n0 ≤ R.cells) (hsl : zu y.2.2.2 - u0 ≤ R.slots)
    (hW : zWA p l e R s m args below meth c Q b B L xs dC dI cA n0 u0 nL y) : zWA p l e R s m args below meth c Q b B L xs dC dI cA n0 u0 nL (pc, ls, st, h) := by
  obtain ⟨hdg, hw, hwn, heq, hoks⟩ := hT _ ho
  have C0 := C
  obtain ⟨hx, hb, hml, hown, hts, hK, -⟩ := C
  obtain ⟨i, len, k, tb⟩ := o
  dsimp only at hdg hw hwn heq hoks
  unfold zstp at hs
  cases i
  case iconst n => exact zs_push hs (fun H locs la ce sl r K => lv_iconst hx hb hdg rfl K) hW
  case bipush n => exact zs_push hs (fun H locs la ce sl r K => lv_bipush hx hb hdg rfl K) hW
  case sipush n => exact zs_push hs (fun H locs la ce sl r K => lv_sipush hx hb hdg rfl K) hW
  case lconst n => exact zs_push hs (fun H locs la ce sl r K => lv_lconst hx hb hdg rfl K) hW
  case ldc n => exact zs_push hs (fun H locs la ce sl r K => lv_ldc hx hb hown (hts _ (hw _ (List.mem_singleton.mpr rfl))) hdg K) hW
  case ldc_w n => exact zs_push hs (fun H locs la ce sl r K => lv_ldcw hx hb hown (hts _ (hw _ (List.mem_singleton.mpr rfl))) hdg K) hW
  case ldc2_w n => exact zs_push hs (fun H locs la ce sl r K => lv_ldc2 hx hb hown (hts _ (hw _ (List.mem_singleton.mpr rfl))) hdg K) hW
  case aconst_null => exact zs_push hs (fun H locs la ce sl r K => lv_null hx hb hdg K) hW
  case iload_n n => exact zs_load hs (fun _ v H locs la ce sl r hl K => lv_iload_n hx hb hdg rfl hl K) (fun z => absurd z (by decide)) (fun z => absurd z (by decide)) hW
  case iload n => exact zs_load hs (fun _ v H locs la ce sl r hl K => lv_iload hx hb hdg hl K) (fun z => absurd z (by decide)) (fun z => absurd z (by decide)) hW
  case lload_n n => exact zs_load hs (fun z => absurd z (by decide)) (fun _ v H locs la ce sl r hl K => lv_lload_n hx hb hdg rfl hl K) (fun z => absurd z (by decide)) hW
  case lload n => exact zs_load hs (fun z => absurd z (by decide)) (fun _ v H locs la ce sl r hl K => lv_lload hx hb hdg hl K) (fun z => absurd z (by decide)) hW
  case aload_n n => exact zs_load hs (fun z => absurd z (by decide)) (fun z => absurd z (by decide)) (fun _ v H locs la ce sl r hl K => by
    cases v with
    | none => exact lv_aload_nN hx hb hdg rfl hl K
    | some v => exact lv_aload_n hx hb hdg rfl hl K) hW
  case aload n => exact zs_load hs (fun z => absurd z (by decide)) (fun z => absurd z (by decide)) (fun _ v H locs la ce sl r hl K => by
    cases v with
    | none => exact lv_aloadN hx hb hdg hl K
    | some v => exact lv_aload hx hb hdg hl K) hW
  case istore_n n => exact zs_store hs (fun _ v H locs la ce sl r lv hl hi K => lv_istore_n hx hb hdg rfl hl hi rfl K) (fun z => absurd z (by decide)) (fun z => absurd z (by decide)) hW
  case istore n => exact zs_store hs (fun _ v H locs la ce sl r lv hl hi K => lv_istore hx hb hdg hl hi rfl K) (fun z => absurd z (by decide)) (fun z => absurd z (by decide)) hW
  case lstore_n n => exact zs_store hs (fun z => absurd z (by decide)) (fun _ v H locs la ce sl r lv hl hi K => lv_lstore_n hx hb hdg rfl hl hi rfl K) (fun z => absurd z (by decide)) hW
  case lstore n => exact zs_store hs (fun z => absurd z (by decide)) (fun _ v H locs la ce sl r lv hl hi K => lv_lstore hx hb hdg hl hi rfl K) (fun z => absurd z (by decide)) hW
  case astore_n n => exact zs_store hs (fun z => absurd z (by decide)) (fun z => absurd z (by decide)) (fun _ v H locs la ce sl r lv hl hi K => by
    cases v with
    | none => exact lv_astore_nN hx hb hdg rfl hl hi rfl K
    | some v => exact lv_astore_n hx hb hdg rfl hl hi rfl K) hW
  case astore n => exact zs_store hs (fun z => absurd z (by decide)) (fun z => absurd z (by decide)) (fun _ v H locs la ce sl r lv hl hi K => by
    cases v with
    | none => exact lv_astoreN hx hb hdg hl hi rfl K
    | some v => exact lv_astore hx hb hdg hl hi rfl K) hW
  case iinc i n => exact zs_inc hx hb hdg hs hW
  case iadd => exact zs_op2 hs (fun u v w hf H locs la ce sl r K => by cases hf; exact lv_iadd hx hb hdg K) hW
  case isub => exact zs_op2 hs (fun u v w hf H locs la ce sl r K => by cases hf; exact lv_isub hx hb hdg K) hW
  case imul => exact zs_op2 hs (fun u v w hf H locs la ce sl r K => by cases hf; exact lv_imul hx hb hdg K) hW
  case iand => exact zs_op2 hs (fun u v w hf H locs la ce sl r K => by cases hf; exact lv_iand hx hb hdg K) hW
  case ior => exact zs_op2 hs (fun u v w hf H locs la ce sl r K => by cases hf; exact lv_ior hx hb hdg K) hW
  case ixor => exact zs_op2 hs (fun u v w hf H locs la ce sl r K => by cases hf; exact lv_ixor hx hb hdg K) hW
  case ishl => exact zs_op2 hs (fun u v w hf H locs la ce sl r K => by cases hf; exact lv_ishl hx hb hdg K) hW
  case ishr => exact zs_op2 hs (fun u v w hf H locs la ce sl r K => by cases hf; exact lv_ishr hx hb hdg K) hW
  case iushr => exact zs_op2 hs (fun u v w hf H locs la ce sl r K => by cases hf; exact lv_iushr hx hb hdg rfl K) hW
  case idiv => exact zs_op2 hs (fun u v w hf H locs la ce sl r K => by
    split at hf
    · cases hf
    · rename_i hz
      cases hf
      exact lv_idiv hx hb hdg hz K) hW
  case irem => exact zs_op2 hs (fun u v w hf H locs la ce sl r K => by
    split at hf
    · cases hf
    · rename_i hz
      cases hf
      exact lv_irem hx hb hdg hz K) hW
  case ineg => exact zs_op1 hs (fun u H locs la ce sl r K => lv_ineg hx hb hdg K) hW
  case i2l => exact zs_op1 hs (fun u H locs la ce sl r K => lv_i2l hx hb hdg rfl K) hW
  case i2b => exact zs_op1 hs (fun u H locs la ce sl r K => lv_i2b hx hb hdg rfl K) hW
  case i2s => exact zs_op1 hs (fun u H locs la ce sl r K => lv_i2s hx hb hdg rfl K) hW
  case ladd => exact zs_op2l hs (fun u v w hf H locs la ce sl r K => by cases hf; exact lv_ladd hx hb hdg K) hW
  case lsub => exact zs_op2l hs (fun u v w hf H locs la ce sl r K => by cases hf; exact lv_lsub hx hb hdg K) hW
  case lmul => exact zs_op2l hs (fun u v w hf H locs la ce sl r K => by cases hf; exact lv_lmul hx hb hdg K) hW
  case ldiv => exact zs_op2l hs (fun u v w hf H locs la ce sl r K => by
    split at hf
    · cases hf
    · rename_i hz
      cases hf
      exact lv_ldiv hx hb hdg hz K) hW
  case lrem => exact zs_op2l hs (fun u v w hf H locs la ce sl r K => by
    split at hf
    · cases hf
    · rename_i hz
      cases hf
      exact lv_lrem hx hb hdg hz K) hW
  case lcmp => exact zs_lcmp hx hb hdg hs hW
  case dup => exact zs_dup hx hb hdg hs hW
  case dup2 => exact zs_dup2 hx hb hdg hs hW
  case pop => exact zs_pop hx hb hdg hs hW
  case ifCond cd off => exact zs_jump hx hb hdg (of_decide_eq_true hoks) hs hW
  case if_icmp cd off => exact zs_jump2 hx hb hdg (of_decide_eq_true hoks) hs hW
  case ifnull off => exact zs_null hx hb hdg (of_decide_eq_true hoks) hs hW
  case ifnonnull off => exact zs_nonnull hx hb hdg (of_decide_eq_true hoks) hs hW
  case goto off => exact zs_goto hx hb hdg (of_decide_eq_true hoks) hs hW
  case tableswitch dd lo hi offs =>
    simp only [zoks, Bool.and_eq_true, List.all_eq_true] at hoks
    exact zs_tab hx hb hdg (of_decide_eq_true hoks.1) (fun off h2 => of_decide_eq_true (hoks.2 off (Array.mem_toList_iff.mpr h2))) hs hW
  case lookupswitch dd ps =>
    unfold zoks at hoks
    rw [Bool.and_eq_true, Bool.and_eq_true] at hoks
    obtain ⟨⟨k1, k2⟩, k3⟩ := hoks
    rw [List.all_eq_true] at k3
    refine zs_look hx hb hdg k1 (fun z => ?_) hs hW
    rcases zlook_in ps.toList dd z with q | ⟨q, q1, q2⟩
    · rw [q]
      exact of_decide_eq_true k2
    · rw [q2]
      exact of_decide_eq_true (k3 q q1)
  case getfield n =>
    unfold zoks at hoks
    rw [List.all_eq_true] at hoks
    refine zs_get C0 hdg (fun q hq => ?_) hs hW
    have h1 := hoks q hq
    simp only [Bool.and_eq_true, decide_eq_true_eq, beq_iff_eq] at h1
    have hF : ∀ w ∈ zneedF own n q, w ∈ zGood := fun w hw2 => hw w (List.mem_flatMap.mpr ⟨q, hq, hw2⟩)
    refine ⟨⟨h1.1.1, h1.1.2, zref q, hF _ List.mem_cons_self, ?_⟩, ?_⟩
    · unfold zref
      split
      · exact Or.inl rfl
      · rename_i hz
        refine Or.inr (hF _ (List.mem_cons_of_mem _ ?_))
        rw [if_neg hz]
        exact List.mem_singleton.mpr rfl
    · have h2 := h1.2
      constructor
      · intro h3
        rw [decide_eq_true h3] at h2
        simpa using h2.symm
      · intro h3
        rw [h3] at h2
        simpa using h2
  case putfield n =>
    unfold zoks at hoks
    rw [List.all_eq_true] at hoks
    refine zs_put C0 hn0 hle hdg (fun q hq => ?_) hs hW
    have h1 := hoks q hq
    simp only [Bool.and_eq_true, Bool.or_eq_true, decide_eq_true_eq, beq_iff_eq, Bool.not_eq_true'] at h1
    obtain ⟨⟨⟨⟨⟨t1, t2⟩, t3⟩, t4⟩, t5⟩, t6⟩ := h1
    have hF : ∀ w ∈ zneedF own n q, w ∈ zGood := fun w hw2 => hw w (List.mem_flatMap.mpr ⟨q, hq, hw2⟩)
    refine ⟨⟨t1, t2, zref q, hF _ List.mem_cons_self, ?_⟩, ?_, fun z => t4.resolve_left (fun w => w z), fun z => t5.resolve_left (fun w => w z), fun z => ?_⟩
    · unfold zref
      split
      · exact Or.inl rfl
      · rename_i hz
        refine Or.inr (hF _ (List.mem_cons_of_mem _ ?_))
        rw [if_neg hz]
        exact List.mem_singleton.mpr rfl
    · cases hz : (zF q.1 q.2.1).2.2.2 with
      | false => exact Or.inl rfl
      | true =>
        refine Or.inr ⟨rfl, t3.resolve_left (fun w => by rw [hz] at w; cases w), heq ((zF q.1 q.2.1).1, own) (List.mem_flatMap.mpr ⟨q, hq, ?_⟩)⟩
        rw [if_pos hz]
        exact List.mem_singleton.mpr rfl
    · have h3 := t6.resolve_left (fun w => w z)
      cases hz : zTy q.1 q.2.1 <;> rw [hz] at h3 <;> simp [zokT, zisI] at h3
      · exact Or.inl ⟨_, rfl⟩
      · exact Or.inr ⟨_, rfl⟩
  case iaload => exact zs_ald C0 hdg hs hW
  case iastore => exact zs_ast C0 hn0 hle hdg hs hW
  case aaload => exact zs_aald C0 hdg hs hW
  case aastore => exact zs_aast C0 hn0 hle hdg hs hW
  case arraylength => exact zs_alen C0 hdg hs hW
  case new n =>
    unfold zoks at hoks
    rw [List.all_eq_true] at hoks
    refine zs_new C0 hn0 hle hu hdg (fun q hq => ?_) hs hc hsl hW
    have h1 := hoks q hq
    simp only [Bool.and_eq_true, decide_eq_true_eq] at h1
    have hF : ∀ w ∈ ([.classLink own n (zC q.1), .instantiable (zC q.1) (zNF q.1), .initialized (zC q.1)] : List Cond), w ∈ zGood := fun w hw2 => hw w (List.mem_flatMap.mpr ⟨q, hq, hw2⟩)
    exact ⟨h1.1, h1.2, hF _ (by simp), hF _ (by simp), hF _ (by simp)⟩
  case newarray a =>
    cases a
    case int => exact zs_newa C0 hn0 hle hu hdg (hw _ (List.mem_singleton.mpr rfl)) hs hc hsl hW
    all_goals cases hs
  case anewarray n =>
    unfold zoks at hoks
    simp only [Bool.and_eq_true, decide_eq_true_eq] at hoks
    exact zs_anew C0 hn0 hle hu hoks.1 hoks.2 hdg (hw _ (List.mem_singleton.mpr rfl)) (hwn _ (List.mem_singleton.mpr rfl)) hs hc hsl hW
  case instanceof n =>
    unfold zoks at hoks
    rw [List.all_eq_true] at hoks
    cases tb with
    | nil =>
      exfalso
      have hs : zinst (.instanceof n, len, k, []) pc ls st h = some (.inr y) := hs
      unfold zinst at hs
      split at hs
      · simp [zfind] at hs
      · cases hs
    | cons q0 tb =>
      refine zs_inst (nm2 := q0.2.2.2.1) C0 hdg (hw _ (List.mem_map.mpr ⟨q0, List.mem_cons_self, rfl⟩)) (fun q hq => ?_) hs hW
      have h1 := hoks q hq
      rw [Bool.and_eq_true, Bool.and_eq_true, Bool.and_eq_true, List.all_eq_true] at h1
      obtain ⟨⟨⟨t1, t2⟩, t3⟩, t4⟩ := h1
      have t5 : q0.2.2.2.1 = q.2.2.2.1 := of_decide_eq_true (t4 q0 List.mem_cons_self)
      have t2 : q.2.2.1 < 5 := of_decide_eq_true t2
      rw [t5]
      refine ⟨of_decide_eq_true t1, ?_⟩
      have he : ∀ z ∈ (match q.2.2.1 with
        | 0 => [(zC q.1, q.2.2.2.1)]
        | 2 => [(zC q.1, RX8), (q.2.2.2.1, RX5)]
        | 3 => [(zC q.1, RX8), (q.2.2.2.1, RX0)]
        | 4 => [(zC q.1, RX0), (q.2.2.2.1, RX5)]
        | _ => []), z.1 = z.2 := fun z hz => heq z (List.mem_flatMap.mpr ⟨q, hq, hz⟩)
      rcases (show q.2.2.1 = 0 ∨ q.2.2.1 = 1 ∨ q.2.2.1 = 2 ∨ q.2.2.1 = 3 ∨ q.2.2.1 = 4 by omega) with z | z | z | z | z
      · rw [z] at he t3
        exact Or.inl ⟨of_decide_eq_true t3, Or.inl (he (zC q.1, q.2.2.2.1) (by simp))⟩
      · rw [z] at t3
        refine Or.inl ⟨of_decide_eq_true t3, Or.inr (hwn _ (List.mem_flatMap.mpr ⟨q, hq, ?_⟩))⟩
        rw [if_pos z]
        exact List.mem_singleton.mpr rfl
      · rw [z] at he t3
        exact Or.inr ⟨of_decide_eq_true t3, Or.inl ⟨he (zC q.1, RX8) (by simp), he (q.2.2.2.1, RX5) (by simp)⟩⟩
      · rw [z] at he t3
        exact Or.inr ⟨of_decide_eq_true t3, Or.inr (Or.inl ⟨he (zC q.1, RX8) (by simp), he (q.2.2.2.1, RX0) (by simp)⟩)⟩
      · rw [z] at he t3
        exact Or.inr ⟨of_decide_eq_true t3, Or.inr (Or.inr ⟨he (zC q.1, RX0) (by simp), he (q.2.2.2.1, RX5) (by simp)⟩)⟩
  case invokestatic n =>
    dsimp only at hs
    split at hs
    · rename_i hf
      have hneed : ∀ w ∈ ([.methodLink own n arraycopyName, .native arraycopyName, .static arraycopyName, .initialized "java/lang/System"] : List Cond), w ∈ zGood := fun w hw2 => hw w (by
        unfold zneed
        dsimp only
        rw [if_pos hf]
        exact hw2)
      exact zs_copy C0 hn0 hle hdg (hneed _ (by simp)) (hneed _ (by simp)) (hneed _ (by simp)) (hneed _ (by simp)) (by omega) (by omega) hs hW
    · rename_i hf
      split at hs
      · rename_i hf2
        have hneed : ∀ w ∈ ([.methodLink own n Lib.Math.max.name, .static Lib.Math.max.name, .initialized "java/lang/Math", .code Lib.Math.max.name Lib.Math.max.code 2 (some .int)] : List Cond), w ∈ zGood := fun w hw2 => hw w (by
          unfold zneed
          dsimp only
          rw [if_neg hf, if_pos hf2]
          exact hw2)
        exact zs_max C0 hdg (hneed _ (by simp)) (hneed _ (by simp)) (hneed _ (by simp)) (hneed _ (by simp)) (by omega) (by omega) hc hsl hs hW
      · rename_i hf2
        split at hs
        · rename_i hf3
          have hneed : ∀ w ∈ ([.methodLink own n Lib.Math.min.name, .static Lib.Math.min.name, .initialized "java/lang/Math", .code Lib.Math.min.name Lib.Math.min.code 2 (some .int)] : List Cond), w ∈ zGood := fun w hw2 => hw w (by
            unfold zneed
            dsimp only
            rw [if_neg hf, if_neg hf2, if_pos hf3]
            exact hw2)
          exact zs_min C0 hdg (hneed _ (by simp)) (hneed _ (by simp)) (hneed _ (by simp)) (hneed _ (by simp)) (by omega) (by omega) hc hsl hs hW
        · rename_i hf3
          unfold zoks at hoks
          rw [Bool.or_eq_true, Bool.or_eq_true, Bool.or_eq_true, List.all_eq_true] at hoks
          refine zs_callS C0 hok hM hfr hlo hle hu rfl ⟨hf, hf2, hf3⟩ hdg hw hwn (fun q hq => ?_) hs hc hsl hW
          rcases hoks with ((z | z) | z) | hoks
          · exact absurd (of_decide_eq_true z) hf
          · exact absurd (of_decide_eq_true z) hf2
          · exact absurd (of_decide_eq_true z) hf3
          · have h1 := hoks q hq
            simp only [Bool.and_eq_true, Bool.or_eq_true, decide_eq_true_eq] at h1
            exact h1
  case invokevirtual n =>
    unfold zoks at hoks
    rw [List.all_eq_true] at hoks
    refine zs_callV C0 hok hM hfr hlo hle hu rfl hdg hw heq (fun q hq => ?_) hs hc hsl hW
    have h1 := hoks q hq
    simp only [Bool.and_eq_true, Bool.or_eq_true, decide_eq_true_eq] at h1
    exact ⟨h1.1.1, h1.1.2, h1.2⟩
  case invokespecial n =>
    unfold zoks at hoks
    rw [Bool.or_eq_true, List.all_eq_true] at hoks
    refine zs_callI C0 hok hM hfr hlo hle hu rfl hdg hw ?_ hs hc hsl hW
    rcases hoks with hk | hk
    · exact Or.inl (of_decide_eq_true hk)
    · refine Or.inr fun q hq => ?_
      have h1 := hk q hq
      rw [Bool.and_eq_true] at h1
      refine ⟨?_, of_decide_eq_true h1.2⟩
      have h2 := h1.1
      split at h2
      · rename_i hz
        simp only [Bool.and_eq_true, decide_eq_true_eq] at h2
        exact Or.inl ⟨hz, h2⟩
      · simp only [Bool.and_eq_true, decide_eq_true_eq] at h2
        exact Or.inr h2
  case ireturn => exact (zm_ret hs).elim
  case lreturn => exact (zm_ret hs).elim
  case areturn => exact (zm_ret hs).elim
  case return_ => exact (zm_ret hs).elim
  all_goals cases hs
end ZSTEP
end
section
/-! a run of a method is sound: contracts out of answers -/
theorem zex_mono {cal : Nat → List zV → zH → Option zR} {cd : Nat → Option zO} (hc : ∀ mid as h r, cal mid as h = some r → zn h ≤ zn r.2 ∧ zu h ≤ zu r.2) : ∀ (n : Nat) (x : zS) (r : zR), zex cal cd n x = some r → zn x.2.2.2 ≤ zn r.2 ∧ zu x.2.2.2 ≤ zu r.2
  | 0, _, _, h => by simp [zex] at h
  | n + 1, x, r, h => by
    simp only [zex] at h
    cases hs : (cd x.1).bind fun o => zstp cal o x with
    | none => rw [hs] at h; cases h
    | some w =>
      rw [hs] at h
      cases ho : cd x.1 with
      | none => rw [ho] at hs; cases hs
      | some o =>
        rw [ho, Option.bind_some] at hs
        cases w with
        | inl q =>
          cases h
          have h1 := zm_end hs
          unfold zret at h1
          split at h1
          · split at h1
            · cases h1
            · cases h1
              exact ⟨Nat.le_refl _, Nat.le_refl _⟩
          · cases h1
            exact ⟨Nat.le_refl _, Nat.le_refl _⟩
          · cases h1
            exact ⟨Nat.le_refl _, Nat.le_refl _⟩
          · cases h1
            exact ⟨Nat.le_refl _, Nat.le_refl _⟩
          · cases h1
        | inr y =>
          have h1 := zm_step hc hs
          have h2 := zex_mono hc n y r h
          omega
theorem zlsA_len (b B : Nat) : ∀ as : List zV, (lg_sl (as.map (ztr b B))).length = (zlsA as).length
  | [] => rfl
  | v :: as => by
    have ih := zlsA_len b B as
    have hc := ztr_cat b B v
    simp only [lg_sl, List.map_cons, List.flatMap_cons, List.length_append, zlsA] at ih ⊢
    by_cases hv : zlong v = true
    · rw [if_pos hv, if_pos (hc.mpr hv)]
      simp only [List.length_cons, List.length_nil]
      omega
    · rw [if_neg hv, if_neg (fun z => hv (hc.mp z))]
      simp only [List.length_cons, List.length_nil]
      omega
theorem zlsA_get (b B : Nat) : ∀ (as : List zV) (i : Nat) (v : zV), (zlsA as)[i]? = some (some v) → (lg_sl (as.map (ztr b B)))[i]? = some (.val (ztr b B v))
  | [], i, v, h => by simp [zlsA] at h
  | w :: as, i, v, h => by
    have hc := ztr_cat b B w
    simp only [lg_sl, List.map_cons, List.flatMap_cons, zlsA] at h ⊢
    by_cases hv : zlong w = true
    · rw [if_pos hv] at h
      rw [if_pos (hc.mpr hv)]
      match i, h with
      | 0, h =>
        simp at h
        simp [h]
      | 1, h => simp at h
      | i + 2, h =>
        simp at h
        have := zlsA_get b B as i v h
        simpa [lg_sl] using this
    · rw [if_neg hv] at h
      rw [if_neg (fun z => hv (hc.mp z))]
      match i, h with
      | 0, h =>
        simp at h
        simp [h]
      | i + 1, h =>
        simp at h
        have := zlsA_get b B as i v h
        simpa [lg_sl] using this
theorem zLV_entry (b B : Nat) (as : List zV) {n : Nat} (h : (zlsA as).length ≤ n) : zLV b B ((lg_sl (as.map (ztr b B)) ++ List.replicate (n - (lg_sl (as.map (ztr b B))).length) Slot.unset).toArray) n (zls as n) := by
  have h1 := lv_entry (as.map (ztr b B)) (n := n) (by rw [zlsA_len]; exact h)
  refine ⟨h1.1, h1.2.1, ?_, fun i v hi => ?_⟩
  · unfold zls
    simp
    omega
  · unfold zls at hi
    rcases Nat.lt_or_ge i (zlsA as).length with q | q
    · rw [List.getElem?_append_left q] at hi
      have h2 := zlsA_get b B as i v hi
      rw [List.getElem?_toArray, List.getElem?_append_left (by rw [zlsA_len]; exact q)]
      exact h2
    · rw [List.getElem?_append_right q] at hi
      have h3 : i - (zlsA as).length < n - (zlsA as).length := by
        have := (List.getElem?_eq_some_iff.mp hi).1
        simpa using this
      rw [List.getElem?_replicate, if_pos h3] at hi
      cases hi
section ZRUN
variable {p : Program} {l : Launch} {e : Env} {R : Room} {s : State} {m : MethodId} {args : Array Value} {below : List Frame} {meth : Method} {c : Code} {cc : ByteArray} {own nm : String} {nL b B L n0 u0 d : Nat} {xs : Nat → Int32} {dC : Nat → ClassId} {dI : Nat → Nat → Nat} {cA : Nat → ClassId} {M : Nat → zQ}
theorem zs_ret {pc : Nat} {ls : zL} {st : List zV} {h : zH} (C : zCx p s m args meth c cc own nm nL b B L xs dC dI cA) {ret : Option FieldType} {tab : List (Nat × zO)} (hT : zTok M own nm cc ret tab) (hret : meth.sig.returnType = ret) {o : zO} (ho : (pc, o) ∈ tab) {r : zR} (hs : zret o st h = some (.inl r)) : zWA p l e R s m args below meth c (MQ below (zQc b B L xs dC dI cA r) args s (zn r.2 - n0) (zu r.2 - u0) (fun q => B ≤ q)) b B L xs dC dI cA n0 u0 nL (pc, ls, st, h) := by
  obtain ⟨hdg, -, -, -, hoks⟩ := hT _ ho
  obtain ⟨hx, hb, -, -, -, -, -, -, -, hlocks, -⟩ := C
  obtain ⟨i, len, k, tb⟩ := o
  dsimp only at hdg hoks
  unfold zret at hs
  split at hs
  · rename_i v hi
    dsimp only at hi
    subst hi
    split at hs
    · cases hs
    · rename_i hv
      cases hs
      intro H locs la hR hS hl
      simp only [zoks, Bool.or_eq_true, Bool.and_eq_true, decide_eq_true_eq] at hoks
      rcases hoks with ⟨h1, h2⟩ | ⟨h1, h2⟩
      · exact W.iret hx hb (hret.trans h2) (fun t ht hW => ⟨rfl, by rw [ht]; exact hR, hS.F ht⟩) hS.2.2 hdg hlocks
      · have hv2 : v = 0 ∨ v = 1 := by
          by_cases q : v = 0 ∨ v = 1
          · exact q
          · exact absurd ⟨h1, q⟩ hv
        exact W.zret hx hb (hret.trans h2) (by rcases hv2 with rfl | rfl <;> decide) (fun t ht hW => ⟨rfl, by rw [ht]; exact hR, hS.F ht⟩) hS.2.2 hdg hlocks
  · rename_i v hi
    dsimp only at hi
    subst hi
    cases hs
    intro H locs la hR hS hl
    exact W.lret hx hb (hret.trans (of_decide_eq_true hoks)) (fun t ht hW => ⟨rfl, by rw [ht]; exact hR, hS.F ht⟩) hS.2.2 hdg hlocks
  · rename_i v hi
    dsimp only at hi
    subst hi
    cases hs
    intro H locs la hR hS hl
    unfold zoks at hoks
    dsimp only at hoks
    have hrt : ∃ rt, ret = some rt ∧ ((∃ n, rt = .object n) ∨ ∃ t, rt = .array t) := by
      split at hoks
      · exact ⟨_, rfl, Or.inl ⟨_, rfl⟩⟩
      · exact ⟨_, rfl, Or.inr ⟨_, rfl⟩⟩
      · cases hoks
    obtain ⟨rt, h2, h3⟩ := hrt
    exact W.aret hx hb (hret.trans h2) h3 (by cases v with
      | none => exact Or.inl rfl
      | some v => exact Or.inr ⟨_, rfl⟩) (fun t ht hW => ⟨rfl, by rw [ht]; exact hR, hS.F ht⟩) hS.2.2 hdg hlocks
  · rename_i hi
    dsimp only at hi
    subst hi
    cases hs
    intro H locs la hR hS hl
    exact W.vret hx hb (hret.trans (of_decide_eq_true hoks)) (fun t ht hW => ⟨rfl, by rw [ht]; exact hR, hS.F ht⟩) hS.2.2 hdg hlocks
  · cases hs
theorem zs_exec {Q : State → Prop} (C : zCx p s m args meth c cc own nm nL b B L xs dC dI cA) (hok : ∀ mid, zMok M mid) (hM : zMet M l b B L xs dC dI cA d) (hfr : d + 1 ≤ R.frames) (hlo : 40 * d + 40 ≤ R.locals) (hn0 : s.heap.size + 1 = B + n0) {ret : Option FieldType} {tab : List (Nat × zO)} (hT : zTok M own nm cc ret tab) {r : zR} (hc : zn r.2 - n0 ≤ R.cells) (hsl : zu r.2 - u0 ≤ R.slots)
    (hend : ∀ (pc : Nat) (ls : zL) (st : List zV) (h : zH) (o : zO), (pc, o) ∈ tab → zret o st h = some (.inl r) → zWA p l e R s m args below meth c Q b B L xs dC dI cA n0 u0 nL (pc, ls, st, h)) :
    ∀ (n : Nat) (x : zS), zex (zcall (zP M) d) (zlk tab) n x = some r → n0 ≤ zn x.2.2.2 → u0 ≤ zu x.2.2.2 → zWA p l e R s m args below meth c Q b B L xs dC dI cA n0 u0 nL x := by
  intro n
  induction n with
  | zero =>
    intro x h
    simp [zex] at h
  | succ n ih =>
    intro x h hle hu
    obtain ⟨pc, ls, st, hp⟩ := x
    have hcal : ∀ mid as h r, zcall (zP M) d mid as h = some r → zn h ≤ zn r.2 ∧ zu h ≤ zu r.2 := fun mid as h r hr => (hM mid as h r hr).1
    simp only [zex] at h
    cases hs : (zlk tab pc).bind fun o => zstp (zcall (zP M) d) o (pc, ls, st, hp) with
    | none => rw [hs] at h; cases h
    | some w =>
      rw [hs] at h
      cases ho : zlk tab pc with
      | none => rw [ho] at hs; cases hs
      | some o =>
        rw [ho, Option.bind_some] at hs
        cases w with
        | inl q =>
          cases h
          exact hend pc ls st hp o (zlk_mem ho) (zm_end hs)
        | inr y =>
          have h1 := zm_step hcal hs
          have h2 := zex_mono hcal n y r h
          dsimp only at h1 hle hu
          exact zs_step C hok hM hfr hlo hn0 hle hu hT (zlk_mem ho) hs (by omega) (by omega) (ih y h (by omega) (by omega))
end ZRUN
theorem zMet_all {M : Nat → zQ} (hok : ∀ mid, zMok M mid) (l : Launch) {b B L : Nat} (hbB : b < B) (xs : Nat → Int32) (dC : Nat → ClassId) (dI : Nat → Nat → Nat) (cA : Nat → ClassId) : ∀ d, zMet M l b B L xs dC dI cA d := by
  intro d
  induction d with
  | zero =>
    intro mid as h r hr
    simp [zcall] at hr
  | succ d ih =>
    intro mid as h r hr
    rw [zcall_succ] at hr
    split at hr
    · rename_i hlen
      obtain ⟨n, hn⟩ := zx_iff.mp hr
      have hcal : ∀ mid as h r, zcall (zP M) d mid as h = some r → zn h ≤ zn r.2 ∧ zu h ≤ zu r.2 := fun mid as h r hr => (ih mid as h r hr).1
      have hmono := zex_mono hcal n _ r hn
      refine ⟨hmono, fun hcd => ?_⟩
      obtain ⟨hT, hpl, hmh, hpar, hmax⟩ := hok mid
      refine Met.ofW (cc := (M mid).2.1) (maxL := (M mid).2.2.1) (ret := (M mid).2.2.2.2.1) hpl rfl ?_
      intro p e s m args below meth c s₁ Bd hml hv
      obtain ⟨rfl, hR, hK, hX, hBs⟩ := hv
      have hts0 := atoms_spec (ws := zwsM M mid) Bd.pre
      have C : zCx p s m (as.map (ztr b B)).toArray meth c (M mid).2.1 (M mid).1.cls (M mid).1.name (M mid).2.2.1 b B L xs dC dI cA :=
        ⟨Bd.exec, Bd.bytes, hml, findClass_of_methodNamed Bd.named, fun w hw => hts0 w (List.mem_cons_of_mem _ hw), hK, hX, hbB, hBs, Bd.notSynchronized, (name_of_methodNamed Bd.named Bd.method).1⟩
      have hl := zLV_entry b B as hlen
      rw [lg_entry_eq]
      have key := zs_exec (R := (headSpec (zwsM M mid) (zrm (d + 1) (zn r.2 - zn h) (zu r.2 - zu h))).room) (below := below) (e := e) (n0 := zn h) (u0 := zu h) (Q := MQ below (zQc b B L xs dC dI cA r) (as.map (ztr b B)).toArray s (zn r.2 - zn h) (zu r.2 - zu h) (fun q => B ≤ q)) C hok ih (Nat.le_refl (d + 1)) (show 40 * d + 40 ≤ 40 * (d + 1) by omega) hR.2.1 hT (r := r) (Nat.le_refl _) (Nat.le_refl _) (fun pc ls st h' o ho hs => zs_ret C hT Bd.returns ho hs) n _ hn (Nat.le_refl _) (Nat.le_refl _)
      have K := key s.heap [] _ hR va_S.rf hl
      dsimp only at K
      rw [Nat.sub_self, Nat.sub_self] at K
      exact K
    · cases hr
end
section
/-! the program as data: each method's instructions (written by wip/whole/gen/tables.py) -/
def tb_X0_init : List (Nat × zO) := [(0, .aload_n 0, 1, 0, []), (1, .iload_n 1, 1, 0, []), (2, .iload_n 2, 1, 0, []), (3, .iload_n 3, 1, 0, []), (4, .iload 4, 2, 0, []), (6, .iload 5, 2, 0, []), (8, .invokespecial 3, 3, 5, [(0, 41, 4, "", "")]), (11, .return_, 1, 0, [])]
def tb_X0_kind : List (Nat × zO) := [(0, .iconst 1, 1, 0, []), (1, .ireturn, 1, 0, [])]
def tb_X0_isAnswered : List (Nat × zO) := [(0, .iload_n 1, 1, 0, []), (1, .aload_n 0, 1, 0, []), (2, .getfield 9, 3, 0, [(0, 1, 1, "CorpseTales$DoubleTale", ""), (5, 1, 1, "CorpseTales$DoubleTale", "")]), (5, .invokestatic 15, 3, 2, [(0, 82, 3, "CorpseTales", "")]), (8, .ifCond .eq 18, 3, 0, []), (11, .iload_n 1, 1, 0, []), (12, .aload_n 0, 1, 0, []), (13, .getfield 19, 3, 0, [(0, 2, 1, "CorpseTales$DoubleTale", ""), (5, 2, 1, "CorpseTales$DoubleTale", "")]), (16, .invokestatic 15, 3, 2, [(0, 82, 3, "CorpseTales", "")]), (19, .ifCond .eq 7, 3, 0, []), (22, .iconst 1, 1, 0, []), (23, .goto 4, 3, 0, []), (26, .iconst 0, 1, 0, []), (27, .ireturn, 1, 1, [])]
def tb_X0_oddsUnanswered : List (Nat × zO) := [(0, .aload_n 0, 1, 0, []), (1, .getfield 9, 3, 0, [(0, 1, 1, "CorpseTales$DoubleTale", ""), (5, 1, 1, "CorpseTales$DoubleTale", "")]), (4, .aload_n 0, 1, 0, []), (5, .getfield 19, 3, 0, [(0, 2, 1, "CorpseTales$DoubleTale", ""), (5, 2, 1, "CorpseTales$DoubleTale", "")]), (8, .if_icmp .ne 11, 3, 0, []), (11, .aload_n 0, 1, 0, []), (12, .iload_n 1, 1, 0, []), (13, .invokespecial 22, 3, 1, [(0, 45, 5, "", "")]), (16, .goto 9, 3, 0, []), (19, .bipush 64, 2, 0, []), (21, .iload_n 1, 1, 0, []), (22, .iload_n 1, 1, 0, []), (23, .imul, 1, 0, []), (24, .isub, 1, 0, []), (25, .ireturn, 1, 0, [])]
def tb_X0_telling : List (Nat × zO) := [(0, .aload_n 1, 1, 0, []), (1, .iconst 2, 1, 0, []), (2, .invokevirtual 26, 3, 1, [(9, 50, 0, "", "")]), (5, .aload_n 0, 1, 0, []), (6, .aload_n 1, 1, 0, []), (7, .invokespecial 32, 3, 1, [(0, 46, 5, "", "")]), (10, .bipush 100, 2, 0, []), (12, .iadd, 1, 0, []), (13, .ireturn, 1, 0, [])]
def tb_X1_init : List (Nat × zO) := [(0, .aload_n 0, 1, 0, []), (1, .invokespecial 3, 3, (-1), []), (4, .aload_n 0, 1, 0, []), (5, .iconst 0, 1, 0, []), (6, .putfield 9, 3, 0, [(1, 0, 0, "", "")]), (9, .aload_n 0, 1, 0, []), (10, .iconst 0, 1, 0, []), (11, .putfield 15, 3, 0, [(1, 1, 0, "", "")]), (14, .aload_n 0, 1, 0, []), (15, .bipush 8, 2, 0, []), (17, .anewarray 18, 3, 13, []), (20, .putfield 20, 3, 2, [(1, 2, 0, "", "")]), (23, .return_, 1, 0, [])]
def tb_X1_taleAt : List (Nat × zO) := [(0, .iload_n 1, 1, 0, []), (1, .ifCond .lt 26, 3, 0, []), (4, .iload_n 1, 1, 0, []), (5, .aload_n 0, 1, 0, []), (6, .getfield 15, 3, 0, [(1, 1, 0, "", "")]), (9, .if_icmp .ge 18, 3, 0, []), (12, .iload_n 1, 1, 0, []), (13, .bipush 8, 2, 0, []), (15, .if_icmp .ge 12, 3, 0, []), (18, .aload_n 0, 1, 0, []), (19, .getfield 20, 3, 2, [(1, 2, 0, "", "")]), (22, .iload_n 1, 1, 0, []), (23, .aaload, 1, 0, []), (24, .goto 4, 3, 0, []), (27, .aconst_null, 1, 0, []), (28, .areturn, 1, 0, [])]
def tb_X1_firstFault : List (Nat × zO) := [(0, .iconst 0, 1, 0, []), (1, .istore_n 3, 1, 0, []), (2, .iload_n 3, 1, 0, []), (3, .iload_n 2, 1, 0, []), (4, .if_icmp .ge 25, 3, 0, []), (7, .iload_n 3, 1, 0, []), (8, .aload_n 0, 1, 0, []), (9, .iload_n 1, 1, 0, []), (10, .iload_n 3, 1, 0, []), (11, .iadd, 1, 0, []), (12, .invokevirtual 24, 3, 1, [(7, 39, 0, "", "")]), (15, .invokestatic 30, 3, 2, [(0, 8, 2, "", "")]), (18, .ifCond .ne 5, 3, 0, []), (21, .iload_n 3, 1, 0, []), (22, .ireturn, 1, 0, []), (23, .iinc 3 1, 3, 0, []), (26, .goto (-24), 3, 0, []), (29, .iload_n 2, 1, 0, []), (30, .bipush 8, 2, 0, []), (32, .if_icmp .lt 17, 3, 0, []), (35, .iload_n 2, 1, 0, []), (36, .iconst 2, 1, 0, []), (37, .isub, 1, 0, []), (38, .bipush 6, 2, 0, []), (40, .irem, 1, 0, []), (41, .ifCond .ne 8, 3, 0, []), (44, .bipush (-9), 2, 0, []), (46, .goto 4, 3, 0, []), (49, .iload_n 2, 1, 0, []), (50, .ireturn, 1, 0, [])]
def tb_X1_goesOn_0 : List (Nat × zO) := [(0, .iload_n 0, 1, 0, []), (1, .ifCond .ne 15, 3, 0, []), (4, .iload_n 1, 1, 0, []), (5, .bipush 114, 2, 0, []), (7, .if_icmp .ne 7, 3, 0, []), (10, .iconst 1, 1, 0, []), (11, .goto 4, 3, 0, []), (14, .iconst 0, 1, 0, []), (15, .ireturn, 1, 1, []), (16, .iload_n 0, 1, 0, []), (17, .iconst 1, 1, 0, []), (18, .if_icmp .ne 12, 3, 0, []), (21, .iload_n 1, 1, 0, []), (22, .bipush 49, 2, 0, []), (24, .bipush 57, 2, 0, []), (26, .invokestatic 34, 3, 3, [(0, 81, 3, "CorpseTales", "")]), (29, .ireturn, 1, 1, []), (30, .iload_n 0, 1, 0, []), (31, .bipush 50, 2, 0, []), (33, .if_icmp .lt 5, 3, 0, []), (36, .iconst 0, 1, 0, []), (37, .ireturn, 1, 1, []), (38, .iload_n 0, 1, 0, []), (39, .iconst 2, 1, 0, []), (40, .isub, 1, 0, []), (41, .bipush 6, 2, 0, []), (43, .irem, 1, 0, []), (44, .lookupswitch 81 #[(0, 36), (1, 48), (5, 72)], 36, 0, []), (80, .iload_n 1, 1, 0, []), (81, .bipush 59, 2, 0, []), (83, .if_icmp .ne 7, 3, 0, []), (86, .iconst 1, 1, 0, []), (87, .goto 4, 3, 0, []), (90, .iconst 0, 1, 0, []), (91, .ireturn, 1, 1, []), (92, .iload_n 1, 1, 0, []), (93, .bipush 116, 2, 0, []), (95, .if_icmp .eq 15, 3, 0, []), (98, .iload_n 1, 1, 0, []), (99, .bipush 100, 2, 0, [])]
def tb_X1_goesOn_1 : List (Nat × zO) := [(101, .if_icmp .eq 9, 3, 0, []), (104, .iload_n 1, 1, 0, []), (105, .bipush 111, 2, 0, []), (107, .if_icmp .ne 7, 3, 0, []), (110, .iconst 1, 1, 0, []), (111, .goto 4, 3, 0, []), (114, .iconst 0, 1, 0, []), (115, .ireturn, 1, 1, []), (116, .iload_n 1, 1, 0, []), (117, .bipush 48, 2, 0, []), (119, .bipush 51, 2, 0, []), (121, .invokestatic 34, 3, 3, [(0, 81, 3, "CorpseTales", "")]), (124, .ireturn, 1, 1, []), (125, .iload_n 1, 1, 0, []), (126, .bipush 48, 2, 0, []), (128, .bipush 55, 2, 0, []), (130, .invokestatic 34, 3, 3, [(0, 81, 3, "CorpseTales", "")]), (133, .ireturn, 1, 1, [])]
def tb_X1_goesOn : List (Nat × zO) := tb_X1_goesOn_0 ++ tb_X1_goesOn_1
def tb_X1_grow_0 : List (Nat × zO) := [(0, .aload_n 0, 1, 0, []), (1, .aload_n 1, 1, 0, []), (2, .iload_n 2, 1, 0, []), (3, .iconst 1, 1, 0, []), (4, .iadd, 1, 0, []), (5, .invokevirtual 24, 3, 1, [(7, 39, 0, "", "")]), (8, .bipush 48, 2, 0, []), (10, .isub, 1, 0, []), (11, .putfield 9, 3, 0, [(1, 0, 0, "", "")]), (14, .aload_n 0, 1, 0, []), (15, .iload_n 3, 1, 0, []), (16, .iconst 2, 1, 0, []), (17, .isub, 1, 0, []), (18, .bipush 6, 2, 0, []), (20, .idiv, 1, 0, []), (21, .bipush 8, 2, 0, []), (23, .invokestatic 38, 3, (-4), []), (26, .putfield 15, 3, 0, [(1, 1, 0, "", "")]), (29, .iconst 0, 1, 0, []), (30, .istore 4, 2, 0, []), (32, .iload 4, 2, 0, []), (34, .aload_n 0, 1, 0, []), (35, .getfield 15, 3, 0, [(1, 1, 0, "", "")]), (38, .if_icmp .ge 31, 3, 0, []), (41, .aload_n 0, 1, 0, []), (42, .getfield 20, 3, 2, [(1, 2, 0, "", "")]), (45, .iload 4, 2, 0, []), (47, .iload 4, 2, 0, []), (49, .aload_n 1, 1, 0, []), (50, .iload_n 2, 1, 0, []), (51, .iconst 2, 1, 0, []), (52, .iadd, 1, 0, []), (53, .bipush 6, 2, 0, []), (55, .iload 4, 2, 0, []), (57, .imul, 1, 0, []), (58, .iadd, 1, 0, []), (59, .invokestatic 44, 3, 3, [(0, 10, 2, "", "")]), (62, .aastore, 1, 0, []), (63, .iinc 4 1, 3, 0, []), (66, .goto (-34), 3, 0, [])]
def tb_X1_grow_1 : List (Nat × zO) := [(69, .return_, 1, 0, [])]
def tb_X1_grow : List (Nat × zO) := tb_X1_grow_0 ++ tb_X1_grow_1
def tb_X1_newTale_0 : List (Nat × zO) := [(0, .aload_n 1, 1, 0, []), (1, .iload_n 2, 1, 0, []), (2, .iconst 1, 1, 0, []), (3, .iadd, 1, 0, []), (4, .invokevirtual 24, 3, 1, [(7, 39, 0, "", "")]), (7, .istore_n 3, 1, 0, []), (8, .aload_n 1, 1, 0, []), (9, .iload_n 2, 1, 0, []), (10, .iconst 2, 1, 0, []), (11, .iadd, 1, 0, []), (12, .invokevirtual 24, 3, 1, [(7, 39, 0, "", "")]), (15, .bipush 48, 2, 0, []), (17, .isub, 1, 0, []), (18, .istore 4, 2, 0, []), (20, .aload_n 1, 1, 0, []), (21, .iload_n 2, 1, 0, []), (22, .iconst 3, 1, 0, []), (23, .iadd, 1, 0, []), (24, .invokevirtual 24, 3, 1, [(7, 39, 0, "", "")]), (27, .bipush 48, 2, 0, []), (29, .isub, 1, 0, []), (30, .istore 5, 2, 0, []), (32, .aload_n 1, 1, 0, []), (33, .iload_n 2, 1, 0, []), (34, .iconst 4, 1, 0, []), (35, .iadd, 1, 0, []), (36, .invokevirtual 24, 3, 1, [(7, 39, 0, "", "")]), (39, .bipush 48, 2, 0, []), (41, .isub, 1, 0, []), (42, .istore 6, 2, 0, []), (44, .aload_n 1, 1, 0, []), (45, .iload_n 2, 1, 0, []), (46, .iconst 5, 1, 0, []), (47, .iadd, 1, 0, []), (48, .invokevirtual 24, 3, 1, [(7, 39, 0, "", "")]), (51, .bipush 48, 2, 0, []), (53, .isub, 1, 0, []), (54, .istore 7, 2, 0, []), (56, .iload_n 3, 1, 0, []), (57, .bipush 111, 2, 0, [])]
def tb_X1_newTale_1 : List (Nat × zO) := [(59, .if_icmp .ne 20, 3, 0, []), (62, .new 48, 3, 0, [(5, 5, 0, "", "")]), (65, .dup, 1, 0, []), (66, .iload_n 0, 1, 0, []), (67, .iload 4, 2, 0, []), (69, .iload 5, 2, 0, []), (71, .iload 6, 2, 0, []), (73, .iload 7, 2, 0, []), (75, .invokespecial 50, 3, 5, [(0, 24, 4, "", "")]), (78, .areturn, 1, 0, []), (79, .iload_n 3, 1, 0, []), (80, .bipush 100, 2, 0, []), (82, .if_icmp .ne 20, 3, 0, []), (85, .new 53, 3, 0, [(0, 5, 0, "", "")]), (88, .dup, 1, 0, []), (89, .iload_n 0, 1, 0, []), (90, .iload 4, 2, 0, []), (92, .iload 5, 2, 0, []), (94, .iload 6, 2, 0, []), (96, .iload 7, 2, 0, []), (98, .invokespecial 55, 3, 5, [(0, 0, 4, "", "")]), (101, .areturn, 1, 0, []), (102, .new 18, 3, 0, [(8, 5, 0, "", "")]), (105, .dup, 1, 0, []), (106, .iload_n 0, 1, 0, []), (107, .iload 4, 2, 0, []), (109, .iload 5, 2, 0, []), (111, .iload 6, 2, 0, []), (113, .iload 7, 2, 0, []), (115, .invokespecial 56, 3, 5, [(0, 41, 4, "", "")]), (118, .areturn, 1, 0, [])]
def tb_X1_newTale : List (Nat × zO) := tb_X1_newTale_0 ++ tb_X1_newTale_1
def tb_X2_init : List (Nat × zO) := [(0, .aload_n 0, 1, 0, []), (1, .invokespecial 3, 3, (-1), []), (4, .aload_n 0, 1, 0, []), (5, .iconst 5, 1, 0, []), (6, .invokestatic 9, 3, 1, [(0, 84, 3, "CorpseTales", "")]), (9, .putfield 13, 3, 2, [(2, 0, 0, "", "")]), (12, .aload_n 0, 1, 0, []), (13, .iconst 0, 1, 0, []), (14, .putfield 19, 3, 0, [(2, 1, 0, "", "")]), (17, .return_, 1, 0, [])]
def tb_X2_farByBestPlay : List (Nat × zO) := [(0, .aload_n 0, 1, 0, []), (1, .iload_n 3, 1, 0, []), (2, .iconst 0, 1, 0, []), (3, .invokestatic 23, 3, (-3), []), (6, .iconst 4, 1, 0, []), (7, .invokestatic 29, 3, (-4), []), (10, .aload_n 1, 1, 0, []), (11, .getfield 32, 3, 0, [(1, 1, 0, "", "")]), (14, .invokestatic 29, 3, (-4), []), (17, .putfield 19, 3, 0, [(2, 1, 0, "", "")]), (20, .aload_n 0, 1, 0, []), (21, .getfield 13, 3, 2, [(2, 0, 0, "", "")]), (24, .iconst 0, 1, 0, []), (25, .aaload, 1, 0, []), (26, .aload_n 2, 1, 0, []), (27, .invokevirtual 37, 3, 1, [(4, 20, 0, "", "")]), (30, .aload_n 0, 1, 0, []), (31, .aload_n 1, 1, 0, []), (32, .iconst 0, 1, 0, []), (33, .iconst 0, 1, 0, []), (34, .iconst 0, 1, 0, []), (35, .invokevirtual 43, 3, 4, [(2, 13, 0, "", "")]), (38, .ireturn, 1, 0, [])]
def tb_X2_leastFar_0 : List (Nat × zO) := [(0, .iload_n 2, 1, 0, []), (1, .ifCond .lt 11, 3, 0, []), (4, .iload_n 2, 1, 0, []), (5, .aload_n 0, 1, 0, []), (6, .getfield 19, 3, 0, [(2, 1, 0, "", "")]), (9, .if_icmp .lt 16, 3, 0, []), (12, .aload_n 0, 1, 0, []), (13, .getfield 13, 3, 2, [(2, 0, 0, "", "")]), (16, .aload_n 0, 1, 0, []), (17, .getfield 19, 3, 0, [(2, 1, 0, "", "")]), (20, .aaload, 1, 0, []), (21, .getfield 47, 3, 0, [(4, 0, 0, "", "")]), (24, .ireturn, 1, 0, []), (25, .aload_n 1, 1, 0, []), (26, .getfield 50, 3, 0, [(1, 0, 0, "", "")]), (29, .istore 5, 2, 0, []), (31, .iconst 0, 1, 0, []), (32, .istore 6, 2, 0, []), (34, .iload 6, 2, 0, []), (36, .aload_n 1, 1, 0, []), (37, .getfield 32, 3, 0, [(1, 1, 0, "", "")]), (40, .if_icmp .ge 49, 3, 0, []), (43, .iload_n 3, 1, 0, []), (44, .iload 6, 2, 0, []), (46, .invokestatic 53, 3, 2, [(0, 82, 3, "CorpseTales", "")]), (49, .ifCond .eq 6, 3, 0, []), (52, .goto 31, 3, 0, []), (55, .iload 5, 2, 0, []), (57, .aload_n 0, 1, 0, []), (58, .aload_n 1, 1, 0, []), (59, .iload_n 2, 1, 0, []), (60, .iload_n 3, 1, 0, []), (61, .iload 6, 2, 0, []), (63, .iload 5, 2, 0, []), (65, .invokevirtual 57, 3, 5, [(2, 14, 0, "", "")]), (68, .invokestatic 29, 3, (-4), []), (71, .istore 5, 2, 0, []), (73, .iload 5, 2, 0, []), (75, .iload 4, 2, 0, []), (77, .if_icmp .gt 6, 3, 0, [])]
def tb_X2_leastFar_1 : List (Nat × zO) := [(80, .iload 5, 2, 0, []), (82, .ireturn, 1, 0, []), (83, .iinc 6 1, 3, 0, []), (86, .goto (-52), 3, 0, []), (89, .iload 5, 2, 0, []), (91, .ireturn, 1, 0, [])]
def tb_X2_leastFar : List (Nat × zO) := tb_X2_leastFar_0 ++ tb_X2_leastFar_1
def tb_X2_mostFar_0 : List (Nat × zO) := [(0, .aload_n 1, 1, 0, []), (1, .iload 4, 2, 0, []), (3, .invokevirtual 61, 3, 1, [(1, 6, 0, "", "")]), (6, .astore 6, 2, 0, []), (8, .aload 6, 2, 0, []), (10, .ifnull 15, 3, 0, []), (13, .iload_n 2, 1, 0, []), (14, .ifCond .lt 11, 3, 0, []), (17, .iload_n 2, 1, 0, []), (18, .aload_n 0, 1, 0, []), (19, .getfield 19, 3, 0, [(2, 1, 0, "", "")]), (22, .if_icmp .lt 5, 3, 0, []), (25, .iconst 0, 1, 0, []), (26, .ireturn, 1, 0, []), (27, .aload_n 0, 1, 0, []), (28, .getfield 13, 3, 2, [(2, 0, 0, "", "")]), (31, .iload_n 2, 1, 0, []), (32, .iconst 1, 1, 0, []), (33, .iadd, 1, 0, []), (34, .aaload, 1, 0, []), (35, .astore 7, 2, 0, []), (37, .aload 7, 2, 0, []), (39, .aload_n 0, 1, 0, []), (40, .getfield 13, 3, 2, [(2, 0, 0, "", "")]), (43, .iload_n 2, 1, 0, []), (44, .aaload, 1, 0, []), (45, .invokevirtual 37, 3, 1, [(4, 20, 0, "", "")]), (48, .aload 7, 2, 0, []), (50, .aload 6, 2, 0, []), (52, .iconst 0, 1, 0, []), (53, .invokevirtual 65, 3, 2, [(4, 21, 0, "", "")]), (56, .aload 7, 2, 0, []), (58, .getfield 69, 3, 0, [(4, 4, 0, "", "")]), (61, .ifCond .eq 9, 3, 0, []), (64, .aload 7, 2, 0, []), (66, .getfield 47, 3, 0, [(4, 0, 0, "", "")]), (69, .ireturn, 1, 0, []), (70, .aload_n 0, 1, 0, []), (71, .aload_n 1, 1, 0, []), (72, .iload_n 2, 1, 0, [])]
def tb_X2_mostFar_1 : List (Nat × zO) := [(73, .iconst 1, 1, 0, []), (74, .iadd, 1, 0, []), (75, .iload_n 3, 1, 0, []), (76, .iconst 1, 1, 0, []), (77, .iload 4, 2, 0, []), (79, .ishl, 1, 0, []), (80, .ior, 1, 0, []), (81, .iconst 0, 1, 0, []), (82, .invokevirtual 43, 3, 4, [(2, 13, 0, "", "")]), (85, .istore 8, 2, 0, []), (87, .iload 8, 2, 0, []), (89, .iload 5, 2, 0, []), (91, .if_icmp .ge 19, 3, 0, []), (94, .aload 7, 2, 0, []), (96, .getfield 73, 3, 0, [(4, 3, 0, "", "")]), (99, .aload 6, 2, 0, []), (101, .getfield 76, 3, 0, [(0, 3, 0, "", ""), (5, 3, 0, "", ""), (8, 3, 0, "", "")]), (104, .invokestatic 53, 3, 2, [(0, 82, 3, "CorpseTales", "")]), (107, .ifCond .eq 6, 3, 0, []), (110, .iload 8, 2, 0, []), (112, .ireturn, 1, 0, []), (113, .aload 7, 2, 0, []), (115, .aload 6, 2, 0, []), (117, .invokevirtual 81, 3, 1, [(4, 22, 0, "", "")]), (120, .iload 8, 2, 0, []), (122, .aload_n 0, 1, 0, []), (123, .aload_n 1, 1, 0, []), (124, .iload_n 2, 1, 0, []), (125, .iconst 1, 1, 0, []), (126, .iadd, 1, 0, []), (127, .iload_n 3, 1, 0, []), (128, .iconst 1, 1, 0, []), (129, .iload 4, 2, 0, []), (131, .ishl, 1, 0, []), (132, .ior, 1, 0, []), (133, .iload 8, 2, 0, []), (135, .invokevirtual 43, 3, 4, [(2, 13, 0, "", "")]), (138, .invokestatic 23, 3, (-3), []), (141, .ireturn, 1, 0, [])]
def tb_X2_mostFar : List (Nat × zO) := tb_X2_mostFar_0 ++ tb_X2_mostFar_1
def tb_X3_init : List (Nat × zO) := [(0, .aload_n 0, 1, 0, []), (1, .invokespecial 3, 3, (-1), []), (4, .aload_n 0, 1, 0, []), (5, .bipush (-9), 2, 0, []), (7, .putfield 9, 3, 0, [(3, 0, 0, "", "")]), (10, .aload_n 0, 1, 0, []), (11, .iconst 5, 1, 0, []), (12, .newarray .int, 2, 0, []), (14, .putfield 15, 3, 2, [(3, 1, 0, "", "")]), (17, .aload_n 0, 1, 0, []), (18, .iconst 5, 1, 0, []), (19, .newarray .int, 2, 0, []), (21, .putfield 19, 3, 2, [(3, 2, 0, "", "")]), (24, .aload_n 0, 1, 0, []), (25, .bipush 6, 2, 0, []), (27, .invokestatic 22, 3, 1, [(0, 84, 3, "CorpseTales", "")]), (30, .putfield 26, 3, 2, [(3, 3, 0, "", "")]), (33, .aload_n 0, 1, 0, []), (34, .iconst 0, 1, 0, []), (35, .putfield 30, 3, 0, [(3, 4, 0, "", "")]), (38, .return_, 1, 0, [])]
def tb_X3_seek : List (Nat × zO) := [(0, .aload_n 0, 1, 0, []), (1, .iload_n 3, 1, 0, []), (2, .iconst 0, 1, 0, []), (3, .invokestatic 33, 3, (-3), []), (6, .iconst 5, 1, 0, []), (7, .invokestatic 39, 3, (-4), []), (10, .putfield 30, 3, 0, [(3, 4, 0, "", "")]), (13, .aload_n 0, 1, 0, []), (14, .bipush (-9), 2, 0, []), (16, .putfield 9, 3, 0, [(3, 0, 0, "", "")]), (19, .aload_n 0, 1, 0, []), (20, .getfield 26, 3, 2, [(3, 3, 0, "", "")]), (23, .iconst 0, 1, 0, []), (24, .aaload, 1, 0, []), (25, .aload_n 2, 1, 0, []), (26, .invokevirtual 42, 3, 1, [(4, 20, 0, "", "")]), (29, .aload_n 0, 1, 0, []), (30, .aload_n 1, 1, 0, []), (31, .iconst 0, 1, 0, []), (32, .iconst 0, 1, 0, []), (33, .invokevirtual 48, 3, 3, [(3, 17, 0, "", "")]), (36, .return_, 1, 0, [])]
def tb_X3_goOn_0 : List (Nat × zO) := [(0, .iload_n 2, 1, 0, []), (1, .ifCond .lt 11, 3, 0, []), (4, .iload_n 2, 1, 0, []), (5, .aload_n 0, 1, 0, []), (6, .getfield 30, 3, 0, [(3, 4, 0, "", "")]), (9, .if_icmp .le 4, 3, 0, []), (12, .return_, 1, 0, []), (13, .aload_n 0, 1, 0, []), (14, .getfield 26, 3, 2, [(3, 3, 0, "", "")]), (17, .iload_n 2, 1, 0, []), (18, .aaload, 1, 0, []), (19, .astore 4, 2, 0, []), (21, .aload 4, 2, 0, []), (23, .getfield 52, 3, 0, [(4, 1, 0, "", "")]), (26, .aload_n 0, 1, 0, []), (27, .getfield 30, 3, 0, [(3, 4, 0, "", "")]), (30, .iadd, 1, 0, []), (31, .iload_n 2, 1, 0, []), (32, .isub, 1, 0, []), (33, .aload_n 0, 1, 0, []), (34, .getfield 9, 3, 0, [(3, 0, 0, "", "")]), (37, .if_icmp .gt 4, 3, 0, []), (40, .return_, 1, 0, []), (41, .iload_n 2, 1, 0, []), (42, .aload_n 0, 1, 0, []), (43, .getfield 30, 3, 0, [(3, 4, 0, "", "")]), (46, .if_icmp .ne 30, 3, 0, []), (49, .aload_n 0, 1, 0, []), (50, .aload 4, 2, 0, []), (52, .getfield 52, 3, 0, [(4, 1, 0, "", "")]), (55, .putfield 9, 3, 0, [(3, 0, 0, "", "")]), (58, .aload_n 0, 1, 0, []), (59, .getfield 19, 3, 2, [(3, 2, 0, "", "")]), (62, .iconst 0, 1, 0, []), (63, .aload_n 0, 1, 0, []), (64, .getfield 15, 3, 2, [(3, 1, 0, "", "")]), (67, .iconst 0, 1, 0, []), (68, .aload_n 0, 1, 0, []), (69, .getfield 30, 3, 0, [(3, 4, 0, "", "")]), (72, .invokestatic 55, 3, (-2), [])]
def tb_X3_goOn_1 : List (Nat × zO) := [(75, .return_, 1, 0, []), (76, .iconst 0, 1, 0, []), (77, .istore 5, 2, 0, []), (79, .iload 5, 2, 0, []), (81, .aload_n 1, 1, 0, []), (82, .getfield 61, 3, 0, [(1, 1, 0, "", "")]), (85, .if_icmp .ge 83, 3, 0, []), (88, .iload_n 3, 1, 0, []), (89, .iload 5, 2, 0, []), (91, .invokestatic 66, 3, 2, [(0, 82, 3, "CorpseTales", "")]), (94, .ifCond .eq 6, 3, 0, []), (97, .goto 65, 3, 0, []), (100, .aload_n 0, 1, 0, []), (101, .getfield 26, 3, 2, [(3, 3, 0, "", "")]), (104, .iload_n 2, 1, 0, []), (105, .iconst 1, 1, 0, []), (106, .iadd, 1, 0, []), (107, .aaload, 1, 0, []), (108, .astore 6, 2, 0, []), (110, .aload 6, 2, 0, []), (112, .aload 4, 2, 0, []), (114, .invokevirtual 42, 3, 1, [(4, 20, 0, "", "")]), (117, .aload 6, 2, 0, []), (119, .aload_n 1, 1, 0, []), (120, .iload 5, 2, 0, []), (122, .invokevirtual 70, 3, 1, [(1, 6, 0, "", "")]), (125, .iconst 1, 1, 0, []), (126, .invokevirtual 74, 3, 2, [(4, 21, 0, "", "")]), (129, .aload 6, 2, 0, []), (131, .getfield 78, 3, 0, [(4, 4, 0, "", "")]), (134, .ifCond .eq 6, 3, 0, []), (137, .goto 25, 3, 0, []), (140, .aload_n 0, 1, 0, []), (141, .getfield 19, 3, 2, [(3, 2, 0, "", "")]), (144, .iload_n 2, 1, 0, []), (145, .iload 5, 2, 0, []), (147, .iastore, 1, 0, []), (148, .aload_n 0, 1, 0, []), (149, .aload_n 1, 1, 0, []), (150, .iload_n 2, 1, 0, [])]
def tb_X3_goOn_2 : List (Nat × zO) := [(151, .iconst 1, 1, 0, []), (152, .iadd, 1, 0, []), (153, .iload_n 3, 1, 0, []), (154, .iconst 1, 1, 0, []), (155, .iload 5, 2, 0, []), (157, .ishl, 1, 0, []), (158, .ior, 1, 0, []), (159, .invokevirtual 48, 3, 3, [(3, 17, 0, "", "")]), (162, .iinc 5 1, 3, 0, []), (165, .goto (-86), 3, 0, []), (168, .return_, 1, 0, [])]
def tb_X3_goOn : List (Nat × zO) := tb_X3_goOn_0 ++ tb_X3_goOn_1 ++ tb_X3_goOn_2
def tb_X4_init : List (Nat × zO) := [(0, .aload_n 0, 1, 0, []), (1, .invokespecial 1, 3, (-1), []), (4, .aload_n 0, 1, 0, []), (5, .iconst 0, 1, 0, []), (6, .putfield 7, 3, 0, [(4, 0, 0, "", "")]), (9, .aload_n 0, 1, 0, []), (10, .iconst 0, 1, 0, []), (11, .putfield 13, 3, 0, [(4, 1, 0, "", "")]), (14, .aload_n 0, 1, 0, []), (15, .iconst 0, 1, 0, []), (16, .putfield 16, 3, 0, [(4, 2, 0, "", "")]), (19, .aload_n 0, 1, 0, []), (20, .iconst 0, 1, 0, []), (21, .putfield 19, 3, 0, [(4, 3, 0, "", "")]), (24, .aload_n 0, 1, 0, []), (25, .iconst 0, 1, 0, []), (26, .putfield 22, 3, 1, [(4, 4, 0, "", "")]), (29, .aload_n 0, 1, 0, []), (30, .iconst 0, 1, 0, []), (31, .putfield 26, 3, 0, [(4, 5, 0, "", "")]), (34, .aload_n 0, 1, 0, []), (35, .iconst 0, 1, 0, []), (36, .putfield 29, 3, 0, [(4, 6, 0, "", "")]), (39, .aload_n 0, 1, 0, []), (40, .iconst 0, 1, 0, []), (41, .putfield 32, 3, 0, [(4, 7, 0, "", "")]), (44, .return_, 1, 0, [])]
def tb_X4_begin : List (Nat × zO) := [(0, .aload_n 0, 1, 0, []), (1, .iload_n 1, 1, 0, []), (2, .putfield 26, 3, 0, [(4, 5, 0, "", "")]), (5, .aload_n 0, 1, 0, []), (6, .iload_n 2, 1, 0, []), (7, .putfield 19, 3, 0, [(4, 3, 0, "", "")]), (10, .aload_n 0, 1, 0, []), (11, .iload_n 3, 1, 0, []), (12, .putfield 29, 3, 0, [(4, 6, 0, "", "")]), (15, .aload_n 0, 1, 0, []), (16, .iconst 0, 1, 0, []), (17, .putfield 7, 3, 0, [(4, 0, 0, "", "")]), (20, .aload_n 0, 1, 0, []), (21, .iconst 0, 1, 0, []), (22, .putfield 13, 3, 0, [(4, 1, 0, "", "")]), (25, .aload_n 0, 1, 0, []), (26, .iconst 0, 1, 0, []), (27, .putfield 16, 3, 0, [(4, 2, 0, "", "")]), (30, .aload_n 0, 1, 0, []), (31, .iconst 0, 1, 0, []), (32, .putfield 32, 3, 0, [(4, 7, 0, "", "")]), (35, .aload_n 0, 1, 0, []), (36, .iconst 0, 1, 0, []), (37, .putfield 22, 3, 1, [(4, 4, 0, "", "")]), (40, .return_, 1, 0, [])]
def tb_X4_takeUp : List (Nat × zO) := [(0, .aload_n 0, 1, 0, []), (1, .aload_n 1, 1, 0, []), (2, .getfield 26, 3, 0, [(4, 5, 0, "", "")]), (5, .putfield 26, 3, 0, [(4, 5, 0, "", "")]), (8, .aload_n 0, 1, 0, []), (9, .aload_n 1, 1, 0, []), (10, .getfield 19, 3, 0, [(4, 3, 0, "", "")]), (13, .putfield 19, 3, 0, [(4, 3, 0, "", "")]), (16, .aload_n 0, 1, 0, []), (17, .aload_n 1, 1, 0, []), (18, .getfield 29, 3, 0, [(4, 6, 0, "", "")]), (21, .putfield 29, 3, 0, [(4, 6, 0, "", "")]), (24, .aload_n 0, 1, 0, []), (25, .aload_n 1, 1, 0, []), (26, .getfield 7, 3, 0, [(4, 0, 0, "", "")]), (29, .putfield 7, 3, 0, [(4, 0, 0, "", "")]), (32, .aload_n 0, 1, 0, []), (33, .aload_n 1, 1, 0, []), (34, .getfield 13, 3, 0, [(4, 1, 0, "", "")]), (37, .putfield 13, 3, 0, [(4, 1, 0, "", "")]), (40, .aload_n 0, 1, 0, []), (41, .aload_n 1, 1, 0, []), (42, .getfield 16, 3, 0, [(4, 2, 0, "", "")]), (45, .putfield 16, 3, 0, [(4, 2, 0, "", "")]), (48, .aload_n 0, 1, 0, []), (49, .aload_n 1, 1, 0, []), (50, .getfield 32, 3, 0, [(4, 7, 0, "", "")]), (53, .putfield 32, 3, 0, [(4, 7, 0, "", "")]), (56, .aload_n 0, 1, 0, []), (57, .aload_n 1, 1, 0, []), (58, .getfield 22, 3, 0, [(4, 4, 0, "", "")]), (61, .putfield 22, 3, 1, [(4, 4, 0, "", "")]), (64, .return_, 1, 0, [])]
def tb_X4_hear_0 : List (Nat × zO) := [(0, .aload_n 1, 1, 0, []), (1, .ifnull 10, 3, 0, []), (4, .aload_n 0, 1, 0, []), (5, .getfield 22, 3, 0, [(4, 4, 0, "", "")]), (8, .ifCond .eq 4, 3, 0, []), (11, .return_, 1, 0, []), (12, .aload_n 0, 1, 0, []), (13, .aload_n 1, 1, 0, []), (14, .getfield 35, 3, 0, [(0, 4, 0, "", ""), (5, 4, 0, "", ""), (8, 4, 0, "", "")]), (17, .invokevirtual 40, 3, 1, [(4, 23, 0, "", "")]), (20, .aload_n 0, 1, 0, []), (21, .getfield 22, 3, 0, [(4, 4, 0, "", "")]), (24, .ifCond .eq 4, 3, 0, []), (27, .return_, 1, 0, []), (28, .aload_n 1, 1, 0, []), (29, .aload_n 0, 1, 0, []), (30, .getfield 19, 3, 0, [(4, 3, 0, "", "")]), (33, .aload_n 0, 1, 0, []), (34, .getfield 32, 3, 0, [(4, 7, 0, "", "")]), (37, .invokevirtual 44, 3, 2, [(0, 2, 53, "CorpseTales$Tale", "CorpseTales$Tale"), (5, 26, 53, "CorpseTales$Tale", "CorpseTales$Tale"), (8, 43, 0, "", "")]), (40, .ifCond .eq 21, 3, 0, []), (43, .aload_n 0, 1, 0, []), (44, .dup, 1, 0, []), (45, .getfield 13, 3, 0, [(4, 1, 0, "", "")]), (48, .iconst 1, 1, 0, []), (49, .iadd, 1, 0, []), (50, .putfield 13, 3, 0, [(4, 1, 0, "", "")]), (53, .aload_n 0, 1, 0, []), (54, .iconst 0, 1, 0, []), (55, .putfield 7, 3, 0, [(4, 0, 0, "", "")]), (58, .goto 19, 3, 0, []), (61, .aload_n 1, 1, 0, []), (62, .aload_n 0, 1, 0, []), (63, .getfield 29, 3, 0, [(4, 6, 0, "", "")]), (66, .invokevirtual 48, 3, 1, [(0, 44, 1, "CorpseTales$Tale", "CorpseTales$Tale"), (5, 44, 1, "CorpseTales$Tale", "CorpseTales$Tale"), (8, 44, 0, "", "")]), (69, .ifCond .ne 8, 3, 0, []), (72, .aload_n 0, 1, 0, []), (73, .iconst 1, 1, 0, []), (74, .invokevirtual 40, 3, 1, [(4, 23, 0, "", "")]), (77, .aload_n 0, 1, 0, [])]
def tb_X4_hear_1 : List (Nat × zO) := [(78, .dup, 1, 0, []), (79, .getfield 16, 3, 0, [(4, 2, 0, "", "")]), (82, .iconst 1, 1, 0, []), (83, .iadd, 1, 0, []), (84, .putfield 16, 3, 0, [(4, 2, 0, "", "")]), (87, .aload_n 0, 1, 0, []), (88, .aload_n 0, 1, 0, []), (89, .getfield 32, 3, 0, [(4, 7, 0, "", "")]), (92, .iconst 1, 1, 0, []), (93, .aload_n 1, 1, 0, []), (94, .getfield 52, 3, 0, [(0, 0, 0, "", ""), (5, 0, 0, "", ""), (8, 0, 0, "", "")]), (97, .ishl, 1, 0, []), (98, .ior, 1, 0, []), (99, .putfield 32, 3, 0, [(4, 7, 0, "", "")]), (102, .iload_n 2, 1, 0, []), (103, .ifCond .eq 8, 3, 0, []), (106, .aload_n 0, 1, 0, []), (107, .aload_n 1, 1, 0, []), (108, .invokevirtual 55, 3, 1, [(4, 22, 0, "", "")]), (111, .return_, 1, 0, [])]
def tb_X4_hear : List (Nat × zO) := tb_X4_hear_0 ++ tb_X4_hear_1
def tb_X4_learn : List (Nat × zO) := [(0, .aload_n 0, 1, 0, []), (1, .aload_n 0, 1, 0, []), (2, .getfield 19, 3, 0, [(4, 3, 0, "", "")]), (5, .iconst 1, 1, 0, []), (6, .aload_n 1, 1, 0, []), (7, .getfield 59, 3, 0, [(0, 3, 0, "", ""), (5, 3, 0, "", ""), (8, 3, 0, "", "")]), (10, .ishl, 1, 0, []), (11, .ior, 1, 0, []), (12, .putfield 19, 3, 0, [(4, 3, 0, "", "")]), (15, .return_, 1, 0, [])]
def tb_X4_walk : List (Nat × zO) := [(0, .aload_n 0, 1, 0, []), (1, .aload_n 0, 1, 0, []), (2, .getfield 7, 3, 0, [(4, 0, 0, "", "")]), (5, .iload_n 1, 1, 0, []), (6, .iadd, 1, 0, []), (7, .aload_n 0, 1, 0, []), (8, .getfield 26, 3, 0, [(4, 5, 0, "", "")]), (11, .invokestatic 62, 3, (-4), []), (14, .putfield 7, 3, 0, [(4, 0, 0, "", "")]), (17, .aload_n 0, 1, 0, []), (18, .aload_n 0, 1, 0, []), (19, .getfield 7, 3, 0, [(4, 0, 0, "", "")]), (22, .aload_n 0, 1, 0, []), (23, .getfield 26, 3, 0, [(4, 5, 0, "", "")]), (26, .if_icmp .ne 7, 3, 0, []), (29, .iconst 1, 1, 0, []), (30, .goto 4, 3, 0, []), (33, .iconst 0, 1, 0, []), (34, .putfield 22, 3, 1, [(4, 4, 0, "", "")]), (37, .return_, 1, 0, [])]
def tb_X5_init : List (Nat × zO) := [(0, .aload_n 0, 1, 0, []), (1, .iload_n 1, 1, 0, []), (2, .iload_n 2, 1, 0, []), (3, .iload_n 3, 1, 0, []), (4, .iload 4, 2, 0, []), (6, .iload 5, 2, 0, []), (8, .invokespecial 3, 3, 5, [(0, 0, 4, "", "")]), (11, .return_, 1, 0, [])]
def tb_X5_kind : List (Nat × zO) := [(0, .iconst 2, 1, 0, []), (1, .ireturn, 1, 0, [])]
def tb_X5_isAnswered : List (Nat × zO) := [(0, .iload_n 2, 1, 0, []), (1, .aload_n 0, 1, 0, []), (2, .getfield 9, 3, 0, [(5, 0, 1, "CorpseTales$OldTale", "")]), (5, .invokestatic 15, 3, 2, [(0, 82, 3, "CorpseTales", "")]), (8, .ifCond .ne 12, 3, 0, []), (11, .aload_n 0, 1, 0, []), (12, .iload_n 1, 1, 0, []), (13, .iload_n 2, 1, 0, []), (14, .invokespecial 19, 3, 2, [(0, 2, 5, "", "")]), (17, .ifCond .eq 7, 3, 0, []), (20, .iconst 1, 1, 0, []), (21, .goto 4, 3, 0, []), (24, .iconst 0, 1, 0, []), (25, .ireturn, 1, 1, [])]
def tb_X5_telling : List (Nat × zO) := [(0, .aload_n 1, 1, 0, []), (1, .iconst 3, 1, 0, []), (2, .invokevirtual 22, 3, 1, [(9, 50, 0, "", "")]), (5, .aload_n 0, 1, 0, []), (6, .aload_n 1, 1, 0, []), (7, .invokespecial 28, 3, 1, [(0, 4, 5, "", "")]), (10, .aload_n 0, 1, 0, []), (11, .aload_n 1, 1, 0, []), (12, .invokevirtual 32, 3, 1, [(5, 47, 1, "CorpseTales$OldTale", "CorpseTales$Tale")]), (15, .iadd, 1, 0, []), (16, .ireturn, 1, 0, [])]
def tb_X5_whispering : List (Nat × zO) := [(0, .aload_n 1, 1, 0, []), (1, .iconst 5, 1, 0, []), (2, .invokevirtual 22, 3, 1, [(9, 50, 0, "", "")]), (5, .bipush 50, 2, 0, []), (7, .ireturn, 1, 0, [])]
def tb_X6_init : List (Nat × zO) := [(0, .aload_n 0, 1, 0, []), (1, .invokespecial 3, 3, (-1), []), (4, .aload_n 0, 1, 0, []), (5, .iconst 0, 1, 0, []), (6, .putfield 9, 3, 0, [(6, 0, 0, "", "")]), (9, .aload_n 0, 1, 0, []), (10, .bipush 8, 2, 0, []), (12, .newarray .int, 2, 0, []), (14, .putfield 15, 3, 2, [(6, 1, 0, "", "")]), (17, .aload_n 0, 1, 0, []), (18, .bipush 8, 2, 0, []), (20, .newarray .int, 2, 0, []), (22, .putfield 19, 3, 2, [(6, 2, 0, "", "")]), (25, .aload_n 0, 1, 0, []), (26, .bipush 8, 2, 0, []), (28, .newarray .int, 2, 0, []), (30, .putfield 22, 3, 2, [(6, 3, 0, "", "")]), (33, .return_, 1, 0, [])]
def tb_X6_add : List (Nat × zO) := [(0, .aload_n 0, 1, 0, []), (1, .getfield 9, 3, 0, [(6, 0, 0, "", "")]), (4, .ifCond .lt 12, 3, 0, []), (7, .aload_n 0, 1, 0, []), (8, .getfield 9, 3, 0, [(6, 0, 0, "", "")]), (11, .bipush 8, 2, 0, []), (13, .if_icmp .lt 6, 3, 0, []), (16, .bipush (-4), 2, 0, []), (18, .ireturn, 1, 0, []), (19, .aload_n 0, 1, 0, []), (20, .getfield 15, 3, 2, [(6, 1, 0, "", "")]), (23, .aload_n 0, 1, 0, []), (24, .getfield 9, 3, 0, [(6, 0, 0, "", "")]), (27, .iload_n 1, 1, 0, []), (28, .iastore, 1, 0, []), (29, .aload_n 0, 1, 0, []), (30, .getfield 19, 3, 2, [(6, 2, 0, "", "")]), (33, .aload_n 0, 1, 0, []), (34, .getfield 9, 3, 0, [(6, 0, 0, "", "")]), (37, .iload_n 2, 1, 0, []), (38, .iastore, 1, 0, []), (39, .aload_n 0, 1, 0, []), (40, .getfield 22, 3, 2, [(6, 3, 0, "", "")]), (43, .aload_n 0, 1, 0, []), (44, .getfield 9, 3, 0, [(6, 0, 0, "", "")]), (47, .iload_n 3, 1, 0, []), (48, .iastore, 1, 0, []), (49, .aload_n 0, 1, 0, []), (50, .dup, 1, 0, []), (51, .getfield 9, 3, 0, [(6, 0, 0, "", "")]), (54, .iconst 1, 1, 0, []), (55, .iadd, 1, 0, []), (56, .putfield 9, 3, 0, [(6, 0, 0, "", "")]), (59, .aload_n 0, 1, 0, []), (60, .getfield 9, 3, 0, [(6, 0, 0, "", "")]), (63, .iconst 1, 1, 0, []), (64, .isub, 1, 0, []), (65, .ireturn, 1, 0, [])]
def tb_X7_init : List (Nat × zO) := [(0, .aload_n 0, 1, 0, []), (1, .invokespecial 3, 3, (-1), []), (4, .aload_n 0, 1, 0, []), (5, .bipush (-9), 2, 0, []), (7, .putfield 9, 3, 0, [(7, 0, 0, "", "")]), (10, .aload_n 0, 1, 0, []), (11, .iconst 0, 1, 0, []), (12, .putfield 15, 3, 0, [(7, 1, 0, "", "")]), (15, .aload_n 0, 1, 0, []), (16, .bipush 60, 2, 0, []), (18, .newarray .int, 2, 0, []), (20, .putfield 18, 3, 2, [(7, 2, 0, "", "")]), (23, .return_, 1, 0, [])]
def tb_X7_isNothing : List (Nat × zO) := [(0, .aload_n 0, 1, 0, []), (1, .getfield 9, 3, 0, [(7, 0, 0, "", "")]), (4, .bipush (-9), 2, 0, []), (6, .if_icmp .ne 7, 3, 0, []), (9, .iconst 1, 1, 0, []), (10, .goto 4, 3, 0, []), (13, .iconst 0, 1, 0, []), (14, .ireturn, 1, 1, [])]
def tb_X7_clear : List (Nat × zO) := [(0, .aload_n 0, 1, 0, []), (1, .bipush (-9), 2, 0, []), (3, .putfield 9, 3, 0, [(7, 0, 0, "", "")]), (6, .aload_n 0, 1, 0, []), (7, .iconst 0, 1, 0, []), (8, .putfield 15, 3, 0, [(7, 1, 0, "", "")]), (11, .return_, 1, 0, [])]
def tb_X7_renew : List (Nat × zO) := [(0, .aload_n 0, 1, 0, []), (1, .getfield 18, 3, 2, [(7, 2, 0, "", "")]), (4, .iconst 0, 1, 0, []), (5, .invokestatic 22, 3, 2, [(0, 143, 2, "", "")]), (8, .aload_n 0, 1, 0, []), (9, .iload_n 1, 1, 0, []), (10, .putfield 9, 3, 0, [(7, 0, 0, "", "")]), (13, .aload_n 0, 1, 0, []), (14, .iload_n 2, 1, 0, []), (15, .iconst 0, 1, 0, []), (16, .invokestatic 28, 3, (-3), []), (19, .bipush 60, 2, 0, []), (21, .invokestatic 34, 3, (-4), []), (24, .putfield 15, 3, 0, [(7, 1, 0, "", "")]), (27, .return_, 1, 0, [])]
def tb_X7_hasCell : List (Nat × zO) := [(0, .iload_n 1, 1, 0, []), (1, .ifCond .lt 15, 3, 0, []), (4, .iload_n 1, 1, 0, []), (5, .aload_n 0, 1, 0, []), (6, .getfield 15, 3, 0, [(7, 1, 0, "", "")]), (9, .if_icmp .ge 7, 3, 0, []), (12, .iconst 1, 1, 0, []), (13, .goto 4, 3, 0, []), (16, .iconst 0, 1, 0, []), (17, .ireturn, 1, 1, [])]
def tb_X7_hasCells : List (Nat × zO) := [(0, .iload_n 2, 1, 0, []), (1, .ifCond .lt 29, 3, 0, []), (4, .iload_n 1, 1, 0, []), (5, .ifCond .lt 25, 3, 0, []), (8, .iload_n 1, 1, 0, []), (9, .aload_n 0, 1, 0, []), (10, .getfield 15, 3, 0, [(7, 1, 0, "", "")]), (13, .if_icmp .gt 17, 3, 0, []), (16, .iload_n 2, 1, 0, []), (17, .aload_n 0, 1, 0, []), (18, .getfield 15, 3, 0, [(7, 1, 0, "", "")]), (21, .iload_n 1, 1, 0, []), (22, .isub, 1, 0, []), (23, .if_icmp .gt 7, 3, 0, []), (26, .iconst 1, 1, 0, []), (27, .goto 4, 3, 0, []), (30, .iconst 0, 1, 0, []), (31, .ireturn, 1, 1, [])]
def tb_X7_faultOfLane : List (Nat × zO) := [(0, .aload_n 0, 1, 0, []), (1, .invokevirtual 37, 3, 0, [(7, 32, 0, "", "")]), (4, .ifCond .eq 5, 3, 0, []), (7, .iconst 1, 1, 0, []), (8, .ireturn, 1, 0, []), (9, .aload_n 0, 1, 0, []), (10, .getfield 9, 3, 0, [(7, 0, 0, "", "")]), (13, .iload_n 1, 1, 0, []), (14, .if_icmp .ne 7, 3, 0, []), (17, .iconst 0, 1, 0, []), (18, .goto 4, 3, 0, []), (21, .iconst 2, 1, 0, []), (22, .ireturn, 1, 0, [])]
def tb_X7_faultOfCells : List (Nat × zO) := [(0, .aload_n 0, 1, 0, []), (1, .iload_n 1, 1, 0, []), (2, .invokevirtual 41, 3, 1, [(7, 37, 0, "", "")]), (5, .istore 4, 2, 0, []), (7, .iload 4, 2, 0, []), (9, .ifCond .eq 6, 3, 0, []), (12, .iload 4, 2, 0, []), (14, .ireturn, 1, 0, []), (15, .iload_n 3, 1, 0, []), (16, .ifCond .ge 5, 3, 0, []), (19, .iconst 4, 1, 0, []), (20, .ireturn, 1, 0, []), (21, .aload_n 0, 1, 0, []), (22, .iload_n 2, 1, 0, []), (23, .iload_n 3, 1, 0, []), (24, .invokevirtual 45, 3, 2, [(7, 36, 0, "", "")]), (27, .ifCond .eq 7, 3, 0, []), (30, .iconst 0, 1, 0, []), (31, .goto 4, 3, 0, []), (34, .iconst 3, 1, 0, []), (35, .ireturn, 1, 0, [])]
def tb_X7_read : List (Nat × zO) := [(0, .aload_n 0, 1, 0, []), (1, .iload_n 1, 1, 0, []), (2, .invokevirtual 49, 3, 1, [(7, 35, 0, "", "")]), (5, .ifCond .eq 12, 3, 0, []), (8, .aload_n 0, 1, 0, []), (9, .getfield 18, 3, 2, [(7, 2, 0, "", "")]), (12, .iload_n 1, 1, 0, []), (13, .iaload, 1, 0, []), (14, .goto 4, 3, 0, []), (17, .iconst 0, 1, 0, []), (18, .ireturn, 1, 0, [])]
def tb_X7_write : List (Nat × zO) := [(0, .aload_n 0, 1, 0, []), (1, .iload_n 1, 1, 0, []), (2, .invokevirtual 49, 3, 1, [(7, 35, 0, "", "")]), (5, .ifCond .ne 4, 3, 0, []), (8, .return_, 1, 0, []), (9, .aload_n 0, 1, 0, []), (10, .getfield 18, 3, 2, [(7, 2, 0, "", "")]), (13, .iload_n 1, 1, 0, []), (14, .aload_n 0, 1, 0, []), (15, .getfield 9, 3, 0, [(7, 0, 0, "", "")]), (18, .ifCond .ne 8, 3, 0, []), (21, .iload_n 2, 1, 0, []), (22, .i2b, 1, 0, []), (23, .goto 17, 3, 0, []), (26, .aload_n 0, 1, 0, []), (27, .getfield 9, 3, 0, [(7, 0, 0, "", "")]), (30, .iconst 1, 1, 0, []), (31, .if_icmp .ne 8, 3, 0, []), (34, .iload_n 2, 1, 0, []), (35, .i2s, 1, 0, []), (36, .goto 4, 3, 0, []), (39, .iload_n 2, 1, 0, []), (40, .iastore, 1, 0, []), (41, .return_, 1, 0, [])]
def tb_X8_init : List (Nat × zO) := [(0, .aload_n 0, 1, 0, []), (1, .invokespecial 3, 3, (-1), []), (4, .aload_n 0, 1, 0, []), (5, .iload_n 1, 1, 0, []), (6, .putfield 9, 3, 0, [(0, 0, 0, "", ""), (5, 0, 0, "", ""), (8, 0, 0, "", "")]), (9, .aload_n 0, 1, 0, []), (10, .iload_n 2, 1, 0, []), (11, .putfield 15, 3, 0, [(0, 1, 0, "", ""), (5, 1, 0, "", ""), (8, 1, 0, "", "")]), (14, .aload_n 0, 1, 0, []), (15, .iload_n 3, 1, 0, []), (16, .putfield 18, 3, 0, [(0, 2, 0, "", ""), (5, 2, 0, "", ""), (8, 2, 0, "", "")]), (19, .aload_n 0, 1, 0, []), (20, .iload 4, 2, 0, []), (22, .putfield 21, 3, 0, [(0, 3, 0, "", ""), (5, 3, 0, "", ""), (8, 3, 0, "", "")]), (25, .aload_n 0, 1, 0, []), (26, .iload 5, 2, 0, []), (28, .putfield 24, 3, 0, [(0, 4, 0, "", ""), (5, 4, 0, "", ""), (8, 4, 0, "", "")]), (31, .return_, 1, 0, [])]
def tb_X8_kind : List (Nat × zO) := [(0, .iconst 0, 1, 0, []), (1, .ireturn, 1, 0, [])]
def tb_X8_isAnswered : List (Nat × zO) := [(0, .aload_n 0, 1, 0, []), (1, .iload_n 1, 1, 0, []), (2, .invokevirtual 27, 3, 1, [(0, 44, 1, "CorpseTales$Tale", "CorpseTales$Tale"), (5, 44, 1, "CorpseTales$Tale", "CorpseTales$Tale"), (8, 44, 0, "", "")]), (5, .ireturn, 1, 1, [])]
def tb_X8_hasEitherNeed : List (Nat × zO) := [(0, .iload_n 1, 1, 0, []), (1, .aload_n 0, 1, 0, []), (2, .getfield 15, 3, 0, [(0, 1, 0, "", ""), (5, 1, 0, "", ""), (8, 1, 0, "", "")]), (5, .invokestatic 31, 3, 2, [(0, 82, 3, "CorpseTales", "")]), (8, .ifCond .ne 14, 3, 0, []), (11, .iload_n 1, 1, 0, []), (12, .aload_n 0, 1, 0, []), (13, .getfield 18, 3, 0, [(0, 2, 0, "", ""), (5, 2, 0, "", ""), (8, 2, 0, "", "")]), (16, .invokestatic 31, 3, 2, [(0, 82, 3, "CorpseTales", "")]), (19, .ifCond .eq 7, 3, 0, []), (22, .iconst 1, 1, 0, []), (23, .goto 4, 3, 0, []), (26, .iconst 0, 1, 0, []), (27, .ireturn, 1, 1, [])]
def tb_X8_oddsUnanswered : List (Nat × zO) := [(0, .bipush 8, 2, 0, []), (2, .iload_n 1, 1, 0, []), (3, .isub, 1, 0, []), (4, .istore_n 2, 1, 0, []), (5, .aload_n 0, 1, 0, []), (6, .getfield 15, 3, 0, [(0, 1, 0, "", ""), (5, 1, 0, "", ""), (8, 1, 0, "", "")]), (9, .aload_n 0, 1, 0, []), (10, .getfield 18, 3, 0, [(0, 2, 0, "", ""), (5, 2, 0, "", ""), (8, 2, 0, "", "")]), (13, .if_icmp .ne 10, 3, 0, []), (16, .bipush 8, 2, 0, []), (18, .iload_n 2, 1, 0, []), (19, .imul, 1, 0, []), (20, .goto 6, 3, 0, []), (23, .iload_n 2, 1, 0, []), (24, .iload_n 2, 1, 0, []), (25, .imul, 1, 0, []), (26, .ireturn, 1, 0, [])]
def tb_X8_telling : List (Nat × zO) := [(0, .aload_n 0, 1, 0, []), (1, .aload_n 1, 1, 0, []), (2, .invokevirtual 35, 3, 1, [(0, 47, 1, "CorpseTales$Tale", "CorpseTales$Tale"), (5, 47, 1, "CorpseTales$Tale", "CorpseTales$Tale"), (8, 47, 0, "", "")]), (5, .ireturn, 1, 0, [])]
def tb_X8_plainTelling : List (Nat × zO) := [(0, .aload_n 1, 1, 0, []), (1, .iconst 1, 1, 0, []), (2, .invokevirtual 39, 3, 1, [(9, 50, 0, "", "")]), (5, .aload_n 0, 1, 0, []), (6, .getfield 21, 3, 0, [(0, 3, 0, "", ""), (5, 3, 0, "", ""), (8, 3, 0, "", "")]), (9, .ireturn, 1, 0, [])]
def tb_X8_whispering : List (Nat × zO) := [(0, .aload_n 1, 1, 0, []), (1, .iconst 4, 1, 0, []), (2, .invokevirtual 39, 3, 1, [(9, 50, 0, "", "")]), (5, .aload_n 0, 1, 0, []), (6, .getfield 9, 3, 0, [(0, 0, 0, "", ""), (5, 0, 0, "", ""), (8, 0, 0, "", "")]), (9, .ireturn, 1, 0, [])]
def tb_X9_init : List (Nat × zO) := [(0, .aload_n 0, 1, 0, []), (1, .invokespecial 1, 3, (-1), []), (4, .aload_n 0, 1, 0, []), (5, .iconst 0, 1, 0, []), (6, .putfield 7, 3, 0, [(9, 0, 0, "", "")]), (9, .return_, 1, 0, [])]
def tb_X9_leave : List (Nat × zO) := [(0, .aload_n 0, 1, 0, []), (1, .bipush 31, 2, 0, []), (3, .aload_n 0, 1, 0, []), (4, .getfield 7, 3, 0, [(9, 0, 0, "", "")]), (7, .imul, 1, 0, []), (8, .iload_n 1, 1, 0, []), (9, .iadd, 1, 0, []), (10, .putfield 7, 3, 0, [(9, 0, 0, "", "")]), (13, .return_, 1, 0, [])]
def tb_X10_init_0 : List (Nat × zO) := [(0, .aload_n 0, 1, 0, []), (1, .invokespecial 3, 3, (-1), []), (4, .aload_n 0, 1, 0, []), (5, .new 9, 3, 0, [(1, 3, 0, "", "")]), (8, .dup, 1, 0, []), (9, .invokespecial 11, 3, 0, [(0, 5, 4, "", "")]), (12, .putfield 12, 3, 2, [(10, 0, 0, "", "")]), (15, .aload_n 0, 1, 0, []), (16, .iconst 0, 1, 0, []), (17, .putfield 18, 3, 0, [(10, 1, 0, "", "")]), (20, .aload_n 0, 1, 0, []), (21, .iconst 0, 1, 0, []), (22, .putfield 22, 3, 0, [(10, 2, 0, "", "")]), (25, .aload_n 0, 1, 0, []), (26, .new 25, 3, 0, [(6, 4, 0, "", "")]), (29, .dup, 1, 0, []), (30, .invokespecial 27, 3, 0, [(0, 29, 4, "", "")]), (33, .putfield 28, 3, 2, [(10, 3, 0, "", "")]), (36, .aload_n 0, 1, 0, []), (37, .iconst 4, 1, 0, []), (38, .anewarray 32, 3, 15, []), (41, .putfield 34, 3, 2, [(10, 4, 0, "", "")]), (44, .aload_n 0, 1, 0, []), (45, .new 38, 3, 0, [(9, 1, 0, "", "")]), (48, .dup, 1, 0, []), (49, .invokespecial 40, 3, 0, [(0, 49, 4, "", "")]), (52, .putfield 41, 3, 2, [(10, 5, 0, "", "")]), (55, .aload_n 0, 1, 0, []), (56, .iconst 0, 1, 0, []), (57, .putfield 45, 3, 0, [(10, 6, 0, "", "")]), (60, .aload_n 0, 1, 0, []), (61, .bipush 20, 2, 0, []), (63, .newarray .int, 2, 0, []), (65, .putfield 48, 3, 2, [(10, 7, 0, "", "")]), (68, .aload_n 0, 1, 0, []), (69, .iconst 0, 1, 0, []), (70, .putfield 52, 3, 0, [(10, 8, 0, "", "")]), (73, .aload_n 0, 1, 0, []), (74, .new 55, 3, 0, [(4, 8, 0, "", "")]), (77, .dup, 1, 0, [])]
def tb_X10_init_1 : List (Nat × zO) := [(78, .invokespecial 57, 3, 0, [(0, 18, 4, "", "")]), (81, .putfield 58, 3, 2, [(10, 9, 0, "", "")]), (84, .aload_n 0, 1, 0, []), (85, .new 62, 3, 0, [(3, 5, 0, "", "")]), (88, .dup, 1, 0, []), (89, .invokespecial 64, 3, 0, [(0, 15, 4, "", "")]), (92, .putfield 65, 3, 2, [(10, 10, 0, "", "")]), (95, .aload_n 0, 1, 0, []), (96, .new 69, 3, 0, [(2, 2, 0, "", "")]), (99, .dup, 1, 0, []), (100, .invokespecial 71, 3, 0, [(0, 11, 4, "", "")]), (103, .putfield 72, 3, 2, [(10, 11, 0, "", "")]), (106, .iconst 0, 1, 0, []), (107, .istore_n 1, 1, 0, []), (108, .iload_n 1, 1, 0, []), (109, .iconst 4, 1, 0, []), (110, .if_icmp .ge 22, 3, 0, []), (113, .aload_n 0, 1, 0, []), (114, .getfield 34, 3, 2, [(10, 4, 0, "", "")]), (117, .iload_n 1, 1, 0, []), (118, .new 32, 3, 0, [(7, 3, 0, "", "")]), (121, .dup, 1, 0, []), (122, .invokespecial 76, 3, 0, [(0, 31, 4, "", "")]), (125, .aastore, 1, 0, []), (126, .iinc 1 1, 3, 0, []), (129, .goto (-21), 3, 0, []), (132, .return_, 1, 0, [])]
def tb_X10_init : List (Nat × zO) := tb_X10_init_0 ++ tb_X10_init_1
def tb_X10_forest_0 : List (Nat × zO) := [(0, .aload_n 0, 1, 0, []), (1, .iconst 0, 1, 0, []), (2, .putfield 45, 3, 0, [(10, 6, 0, "", "")]), (5, .aload_n 0, 1, 0, []), (6, .iload_n 1, 1, 0, []), (7, .invokevirtual 77, 3, 1, [(10, 79, 0, "", "")]), (10, .astore 5, 2, 0, []), (12, .aload 5, 2, 0, []), (14, .ifnonnull 5, 3, 0, []), (17, .iconst (-1), 1, 0, []), (18, .ireturn, 1, 0, []), (19, .iload_n 2, 1, 0, []), (20, .iconst 0, 1, 0, []), (21, .iconst 2, 1, 0, []), (22, .invokestatic 81, 3, 3, [(0, 81, 2, "", "")]), (25, .ifCond .ne 6, 3, 0, []), (28, .bipush (-2), 2, 0, []), (30, .ireturn, 1, 0, []), (31, .aload 5, 2, 0, []), (33, .iload_n 2, 1, 0, []), (34, .iload_n 3, 1, 0, []), (35, .iload 4, 2, 0, []), (37, .invokevirtual 85, 3, 3, [(7, 38, 0, "", "")]), (40, .istore 6, 2, 0, []), (42, .iload 6, 2, 0, []), (44, .ifCond .eq 10, 3, 0, []), (47, .aload_n 0, 1, 0, []), (48, .iload 6, 2, 0, []), (50, .invokevirtual 89, 3, 1, [(10, 80, 0, "", "")]), (53, .ireturn, 1, 0, []), (54, .aload 5, 2, 0, []), (56, .iload_n 3, 1, 0, []), (57, .iload 4, 2, 0, []), (59, .invokestatic 93, 3, 3, [(0, 7, 2, "", "")]), (62, .istore 7, 2, 0, []), (64, .iload 7, 2, 0, []), (66, .bipush (-9), 2, 0, []), (68, .if_icmp .eq 9, 3, 0, []), (71, .bipush (-100), 2, 0, []), (73, .iload 7, 2, 0, [])]
def tb_X10_forest_1 : List (Nat × zO) := [(75, .isub, 1, 0, []), (76, .ireturn, 1, 0, []), (77, .aload_n 0, 1, 0, []), (78, .getfield 12, 3, 2, [(10, 0, 0, "", "")]), (81, .aload 5, 2, 0, []), (83, .iload_n 3, 1, 0, []), (84, .iload 4, 2, 0, []), (86, .invokevirtual 97, 3, 3, [(1, 9, 0, "", "")]), (89, .aload_n 0, 1, 0, []), (90, .iconst 0, 1, 0, []), (91, .putfield 18, 3, 0, [(10, 1, 0, "", "")]), (94, .aload_n 0, 1, 0, []), (95, .iconst 0, 1, 0, []), (96, .putfield 22, 3, 0, [(10, 2, 0, "", "")]), (99, .aload_n 0, 1, 0, []), (100, .getfield 28, 3, 2, [(10, 3, 0, "", "")]), (103, .iconst 0, 1, 0, []), (104, .putfield 101, 3, 0, [(6, 0, 0, "", "")]), (107, .aload_n 0, 1, 0, []), (108, .getfield 12, 3, 2, [(10, 0, 0, "", "")]), (111, .getfield 104, 3, 0, [(1, 1, 0, "", "")]), (114, .ireturn, 1, 0, [])]
def tb_X10_forest : List (Nat × zO) := tb_X10_forest_0 ++ tb_X10_forest_1
def tb_X10_ofTale : List (Nat × zO) := [(0, .aload_n 0, 1, 0, []), (1, .getfield 12, 3, 2, [(10, 0, 0, "", "")]), (4, .iload_n 1, 1, 0, []), (5, .invokevirtual 105, 3, 1, [(1, 6, 0, "", "")]), (8, .astore_n 3, 1, 0, []), (9, .aload_n 3, 1, 0, []), (10, .ifnonnull 5, 3, 0, []), (13, .iconst (-1), 1, 0, []), (14, .ireturn, 1, 0, []), (15, .iload_n 2, 1, 0, []), (16, .tableswitch 83 0 5 #[40, 45, 50, 55, 60, 65], 40, 0, []), (56, .aload_n 3, 1, 0, []), (57, .invokevirtual 109, 3, 0, [(0, 1, 52, "CorpseTales$Tale", "CorpseTales$Tale"), (5, 25, 52, "CorpseTales$Tale", "CorpseTales$Tale"), (8, 42, 0, "", "")]), (60, .ireturn, 1, 0, []), (61, .aload_n 3, 1, 0, []), (62, .getfield 115, 3, 0, [(0, 1, 0, "", ""), (5, 1, 0, "", ""), (8, 1, 0, "", "")]), (65, .ireturn, 1, 0, []), (66, .aload_n 3, 1, 0, []), (67, .getfield 118, 3, 0, [(0, 2, 0, "", ""), (5, 2, 0, "", ""), (8, 2, 0, "", "")]), (70, .ireturn, 1, 0, []), (71, .aload_n 3, 1, 0, []), (72, .getfield 121, 3, 0, [(0, 3, 0, "", ""), (5, 3, 0, "", ""), (8, 3, 0, "", "")]), (75, .ireturn, 1, 0, []), (76, .aload_n 3, 1, 0, []), (77, .getfield 124, 3, 0, [(0, 4, 0, "", ""), (5, 4, 0, "", ""), (8, 4, 0, "", "")]), (80, .ireturn, 1, 0, []), (81, .aload_n 3, 1, 0, []), (82, .aload_n 0, 1, 0, []), (83, .getfield 18, 3, 0, [(10, 1, 0, "", "")]), (86, .iconst 0, 1, 0, []), (87, .invokevirtual 127, 3, 2, [(0, 2, 53, "CorpseTales$Tale", "CorpseTales$Tale"), (5, 26, 53, "CorpseTales$Tale", "CorpseTales$Tale"), (8, 43, 0, "", "")]), (90, .ifCond .eq 7, 3, 0, []), (93, .iconst 1, 1, 0, []), (94, .goto 4, 3, 0, []), (97, .iconst 0, 1, 0, []), (98, .ireturn, 1, 0, []), (99, .bipush (-2), 2, 0, []), (101, .ireturn, 1, 0, [])]
def tb_X10_know : List (Nat × zO) := [(0, .iload_n 1, 1, 0, []), (1, .iconst 0, 1, 0, []), (2, .bipush 7, 2, 0, []), (4, .invokestatic 81, 3, 3, [(0, 81, 2, "", "")]), (7, .ifCond .ne 5, 3, 0, []), (10, .iconst (-1), 1, 0, []), (11, .ireturn, 1, 0, []), (12, .aload_n 0, 1, 0, []), (13, .getfield 12, 3, 2, [(10, 0, 0, "", "")]), (16, .getfield 104, 3, 0, [(1, 1, 0, "", "")]), (19, .ifCond .ne 6, 3, 0, []), (22, .bipush (-3), 2, 0, []), (24, .ireturn, 1, 0, []), (25, .aload_n 0, 1, 0, []), (26, .getfield 18, 3, 0, [(10, 1, 0, "", "")]), (29, .iload_n 1, 1, 0, []), (30, .invokestatic 131, 3, 2, [(0, 82, 2, "", "")]), (33, .iload_n 2, 1, 0, []), (34, .if_icmp .ne 5, 3, 0, []), (37, .iconst 0, 1, 0, []), (38, .ireturn, 1, 0, []), (39, .aload_n 0, 1, 0, []), (40, .aload_n 0, 1, 0, []), (41, .getfield 18, 3, 0, [(10, 1, 0, "", "")]), (44, .iconst 1, 1, 0, []), (45, .iload_n 1, 1, 0, []), (46, .ishl, 1, 0, []), (47, .ixor, 1, 0, []), (48, .putfield 18, 3, 0, [(10, 1, 0, "", "")]), (51, .iconst 1, 1, 0, []), (52, .ireturn, 1, 0, [])]
def tb_X10_believe : List (Nat × zO) := [(0, .iload_n 1, 1, 0, []), (1, .iconst 0, 1, 0, []), (2, .bipush 7, 2, 0, []), (4, .invokestatic 81, 3, 3, [(0, 81, 2, "", "")]), (7, .ifCond .ne 5, 3, 0, []), (10, .iconst (-1), 1, 0, []), (11, .ireturn, 1, 0, []), (12, .aload_n 0, 1, 0, []), (13, .getfield 12, 3, 2, [(10, 0, 0, "", "")]), (16, .getfield 104, 3, 0, [(1, 1, 0, "", "")]), (19, .ifCond .ne 6, 3, 0, []), (22, .bipush (-3), 2, 0, []), (24, .ireturn, 1, 0, []), (25, .aload_n 0, 1, 0, []), (26, .getfield 22, 3, 0, [(10, 2, 0, "", "")]), (29, .iload_n 1, 1, 0, []), (30, .invokestatic 131, 3, 2, [(0, 82, 2, "", "")]), (33, .iload_n 2, 1, 0, []), (34, .if_icmp .ne 5, 3, 0, []), (37, .iconst 0, 1, 0, []), (38, .ireturn, 1, 0, []), (39, .aload_n 0, 1, 0, []), (40, .aload_n 0, 1, 0, []), (41, .getfield 22, 3, 0, [(10, 2, 0, "", "")]), (44, .iconst 1, 1, 0, []), (45, .iload_n 1, 1, 0, []), (46, .ishl, 1, 0, []), (47, .ixor, 1, 0, []), (48, .putfield 22, 3, 0, [(10, 2, 0, "", "")]), (51, .iconst 1, 1, 0, []), (52, .ireturn, 1, 0, [])]
def tb_X10_night : List (Nat × zO) := [(0, .aload_n 0, 1, 0, []), (1, .iload_n 1, 1, 0, []), (2, .iload_n 2, 1, 0, []), (3, .iload_n 3, 1, 0, []), (4, .iload 4, 2, 0, []), (6, .iload 5, 2, 0, []), (8, .invokevirtual 134, 3, 5, [(10, 58, 0, "", "")]), (11, .istore 6, 2, 0, []), (13, .iload 6, 2, 0, []), (15, .ifCond .eq 6, 3, 0, []), (18, .iload 6, 2, 0, []), (20, .ireturn, 1, 0, []), (21, .aload_n 0, 1, 0, []), (22, .aload_n 0, 1, 0, []), (23, .getfield 18, 3, 0, [(10, 1, 0, "", "")]), (26, .invokevirtual 138, 3, 1, [(10, 59, 0, "", "")]), (29, .iload 5, 2, 0, []), (31, .tableswitch 49 0 2 #[25, 33, 41], 25, 0, []), (56, .aload_n 0, 1, 0, []), (57, .getfield 58, 3, 2, [(10, 9, 0, "", "")]), (60, .getfield 142, 3, 0, [(4, 0, 0, "", "")]), (63, .ireturn, 1, 0, []), (64, .aload_n 0, 1, 0, []), (65, .getfield 58, 3, 2, [(10, 9, 0, "", "")]), (68, .getfield 145, 3, 0, [(4, 1, 0, "", "")]), (71, .ireturn, 1, 0, []), (72, .aload_n 0, 1, 0, []), (73, .getfield 58, 3, 2, [(10, 9, 0, "", "")]), (76, .getfield 148, 3, 0, [(4, 2, 0, "", "")]), (79, .ireturn, 1, 0, []), (80, .aload_n 0, 1, 0, []), (81, .getfield 58, 3, 2, [(10, 9, 0, "", "")]), (84, .getfield 151, 3, 0, [(4, 3, 0, "", "")]), (87, .ireturn, 1, 0, [])]
def tb_X10_comes : List (Nat × zO) := [(0, .aload_n 0, 1, 0, []), (1, .iload_n 1, 1, 0, []), (2, .iload_n 2, 1, 0, []), (3, .iload_n 3, 1, 0, []), (4, .iload 4, 2, 0, []), (6, .iconst 0, 1, 0, []), (7, .invokevirtual 134, 3, 5, [(10, 58, 0, "", "")]), (10, .istore 5, 2, 0, []), (12, .iload 5, 2, 0, []), (14, .ifCond .eq 6, 3, 0, []), (17, .iload 5, 2, 0, []), (19, .ireturn, 1, 0, []), (20, .aload_n 0, 1, 0, []), (21, .aload_n 0, 1, 0, []), (22, .getfield 18, 3, 0, [(10, 1, 0, "", "")]), (25, .invokevirtual 138, 3, 1, [(10, 59, 0, "", "")]), (28, .aload_n 0, 1, 0, []), (29, .getfield 58, 3, 2, [(10, 9, 0, "", "")]), (32, .getfield 152, 3, 0, [(4, 4, 0, "", "")]), (35, .ifCond .eq 7, 3, 0, []), (38, .iconst 1, 1, 0, []), (39, .goto 4, 3, 0, []), (42, .iconst 0, 1, 0, []), (43, .ireturn, 1, 0, [])]
def tb_X10_takeOrder_0 : List (Nat × zO) := [(0, .aload_n 0, 1, 0, []), (1, .iconst 0, 1, 0, []), (2, .putfield 45, 3, 0, [(10, 6, 0, "", "")]), (5, .aload_n 0, 1, 0, []), (6, .iload_n 1, 1, 0, []), (7, .invokevirtual 77, 3, 1, [(10, 79, 0, "", "")]), (10, .astore 6, 2, 0, []), (12, .aload 6, 2, 0, []), (14, .ifnonnull 5, 3, 0, []), (17, .iconst (-1), 1, 0, []), (18, .ireturn, 1, 0, []), (19, .iload_n 2, 1, 0, []), (20, .iconst 0, 1, 0, []), (21, .iconst 2, 1, 0, []), (22, .invokestatic 81, 3, 3, [(0, 81, 2, "", "")]), (25, .ifCond .eq 13, 3, 0, []), (28, .iload 5, 2, 0, []), (30, .iconst 0, 1, 0, []), (31, .iconst 3, 1, 0, []), (32, .invokestatic 81, 3, 3, [(0, 81, 2, "", "")]), (35, .ifCond .ne 6, 3, 0, []), (38, .bipush (-2), 2, 0, []), (40, .ireturn, 1, 0, []), (41, .aload_n 0, 1, 0, []), (42, .getfield 12, 3, 2, [(10, 0, 0, "", "")]), (45, .getfield 104, 3, 0, [(1, 1, 0, "", "")]), (48, .ifCond .ne 6, 3, 0, []), (51, .bipush (-3), 2, 0, []), (53, .ireturn, 1, 0, []), (54, .aload 6, 2, 0, []), (56, .iload_n 2, 1, 0, []), (57, .iload_n 3, 1, 0, []), (58, .iload 4, 2, 0, []), (60, .invokevirtual 85, 3, 3, [(7, 38, 0, "", "")]), (63, .istore 7, 2, 0, []), (65, .iload 7, 2, 0, []), (67, .ifCond .eq 10, 3, 0, []), (70, .aload_n 0, 1, 0, []), (71, .iload 7, 2, 0, []), (73, .invokevirtual 89, 3, 1, [(10, 80, 0, "", "")])]
def tb_X10_takeOrder_1 : List (Nat × zO) := [(76, .ireturn, 1, 0, []), (77, .iload 4, 2, 0, []), (79, .bipush 20, 2, 0, []), (81, .if_icmp .le 6, 3, 0, []), (84, .bipush (-2), 2, 0, []), (86, .ireturn, 1, 0, []), (87, .iconst 0, 1, 0, []), (88, .istore 8, 2, 0, []), (90, .iload 8, 2, 0, []), (92, .iload 4, 2, 0, []), (94, .if_icmp .ge 51, 3, 0, []), (97, .iload 8, 2, 0, []), (99, .bipush 20, 2, 0, []), (101, .if_icmp .ge 44, 3, 0, []), (104, .aload_n 0, 1, 0, []), (105, .getfield 48, 3, 2, [(10, 7, 0, "", "")]), (108, .iload 8, 2, 0, []), (110, .aload 6, 2, 0, []), (112, .iload_n 3, 1, 0, []), (113, .iload 8, 2, 0, []), (115, .iadd, 1, 0, []), (116, .invokevirtual 156, 3, 1, [(7, 39, 0, "", "")]), (119, .iastore, 1, 0, []), (120, .aload_n 0, 1, 0, []), (121, .getfield 12, 3, 2, [(10, 0, 0, "", "")]), (124, .aload_n 0, 1, 0, []), (125, .getfield 48, 3, 2, [(10, 7, 0, "", "")]), (128, .iload 8, 2, 0, []), (130, .iaload, 1, 0, []), (131, .invokevirtual 105, 3, 1, [(1, 6, 0, "", "")]), (134, .ifnonnull 5, 3, 0, []), (137, .iconst (-1), 1, 0, []), (138, .ireturn, 1, 0, []), (139, .iinc 8 1, 3, 0, []), (142, .goto (-52), 3, 0, []), (145, .aload_n 0, 1, 0, []), (146, .iload 4, 2, 0, []), (148, .putfield 52, 3, 0, [(10, 8, 0, "", "")]), (151, .iconst 0, 1, 0, []), (152, .ireturn, 1, 0, [])]
def tb_X10_takeOrder : List (Nat × zO) := tb_X10_takeOrder_0 ++ tb_X10_takeOrder_1
def tb_X10_passNight : List (Nat × zO) := [(0, .aload_n 0, 1, 0, []), (1, .getfield 58, 3, 2, [(10, 9, 0, "", "")]), (4, .aload_n 0, 1, 0, []), (5, .getfield 12, 3, 2, [(10, 0, 0, "", "")]), (8, .getfield 159, 3, 0, [(1, 0, 0, "", "")]), (11, .iload_n 1, 1, 0, []), (12, .aload_n 0, 1, 0, []), (13, .getfield 22, 3, 0, [(10, 2, 0, "", "")]), (16, .invokevirtual 162, 3, 3, [(4, 19, 0, "", "")]), (19, .iconst 0, 1, 0, []), (20, .istore_n 2, 1, 0, []), (21, .iload_n 2, 1, 0, []), (22, .aload_n 0, 1, 0, []), (23, .getfield 52, 3, 0, [(10, 8, 0, "", "")]), (26, .if_icmp .ge 36, 3, 0, []), (29, .iload_n 2, 1, 0, []), (30, .bipush 20, 2, 0, []), (32, .if_icmp .ge 30, 3, 0, []), (35, .aload_n 0, 1, 0, []), (36, .getfield 58, 3, 2, [(10, 9, 0, "", "")]), (39, .aload_n 0, 1, 0, []), (40, .getfield 12, 3, 2, [(10, 0, 0, "", "")]), (43, .aload_n 0, 1, 0, []), (44, .getfield 48, 3, 2, [(10, 7, 0, "", "")]), (47, .iload_n 2, 1, 0, []), (48, .iaload, 1, 0, []), (49, .invokevirtual 105, 3, 1, [(1, 6, 0, "", "")]), (52, .iconst 1, 1, 0, []), (53, .invokevirtual 166, 3, 2, [(4, 21, 0, "", "")]), (56, .iinc 2 1, 3, 0, []), (59, .goto (-38), 3, 0, []), (62, .return_, 1, 0, [])]
def tb_X10_never_0 : List (Nat × zO) := [(0, .iload_n 1, 1, 0, []), (1, .iconst 1, 1, 0, []), (2, .iconst 5, 1, 0, []), (3, .invokestatic 81, 3, 3, [(0, 81, 2, "", "")]), (6, .ifCond .eq 12, 3, 0, []), (9, .iload_n 2, 1, 0, []), (10, .iconst (-1), 1, 0, []), (11, .iconst 4, 1, 0, []), (12, .invokestatic 81, 3, 3, [(0, 81, 2, "", "")]), (15, .ifCond .ne 6, 3, 0, []), (18, .bipush (-2), 2, 0, []), (20, .ireturn, 1, 0, []), (21, .aload_n 0, 1, 0, []), (22, .getfield 12, 3, 2, [(10, 0, 0, "", "")]), (25, .getfield 104, 3, 0, [(1, 1, 0, "", "")]), (28, .ifCond .ne 6, 3, 0, []), (31, .bipush (-3), 2, 0, []), (33, .ireturn, 1, 0, []), (34, .aload_n 0, 1, 0, []), (35, .getfield 58, 3, 2, [(10, 9, 0, "", "")]), (38, .aload_n 0, 1, 0, []), (39, .getfield 12, 3, 2, [(10, 0, 0, "", "")]), (42, .getfield 159, 3, 0, [(1, 0, 0, "", "")]), (45, .aload_n 0, 1, 0, []), (46, .getfield 18, 3, 0, [(10, 1, 0, "", "")]), (49, .aload_n 0, 1, 0, []), (50, .getfield 22, 3, 0, [(10, 2, 0, "", "")]), (53, .invokevirtual 162, 3, 3, [(4, 19, 0, "", "")]), (56, .aload_n 0, 1, 0, []), (57, .getfield 65, 3, 2, [(10, 10, 0, "", "")]), (60, .aload_n 0, 1, 0, []), (61, .getfield 12, 3, 2, [(10, 0, 0, "", "")]), (64, .aload_n 0, 1, 0, []), (65, .getfield 58, 3, 2, [(10, 9, 0, "", "")]), (68, .iload_n 1, 1, 0, []), (69, .invokevirtual 170, 3, 3, [(3, 16, 0, "", "")]), (72, .aload_n 0, 1, 0, []), (73, .getfield 65, 3, 2, [(10, 10, 0, "", "")]), (76, .getfield 174, 3, 0, [(3, 0, 0, "", "")]), (79, .bipush (-9), 2, 0, [])]
def tb_X10_never_1 : List (Nat × zO) := [(81, .if_icmp .eq 8, 3, 0, []), (84, .iload_n 2, 1, 0, []), (85, .iload_n 1, 1, 0, []), (86, .if_icmp .lt 6, 3, 0, []), (89, .bipush (-9), 2, 0, []), (91, .ireturn, 1, 0, []), (92, .iload_n 2, 1, 0, []), (93, .ifCond .ge 13, 3, 0, []), (96, .aload_n 0, 1, 0, []), (97, .getfield 65, 3, 2, [(10, 10, 0, "", "")]), (100, .getfield 174, 3, 0, [(3, 0, 0, "", "")]), (103, .goto 12, 3, 0, []), (106, .aload_n 0, 1, 0, []), (107, .getfield 65, 3, 2, [(10, 10, 0, "", "")]), (110, .getfield 177, 3, 2, [(3, 1, 0, "", "")]), (113, .iload_n 2, 1, 0, []), (114, .iaload, 1, 0, []), (115, .ireturn, 1, 0, [])]
def tb_X10_never : List (Nat × zO) := tb_X10_never_0 ++ tb_X10_never_1
def tb_X10_study_0 : List (Nat × zO) := [(0, .aload_n 0, 1, 0, []), (1, .iload_n 1, 1, 0, []), (2, .iload_n 2, 1, 0, []), (3, .iload_n 3, 1, 0, []), (4, .iload 4, 2, 0, []), (6, .iconst 0, 1, 0, []), (7, .invokevirtual 134, 3, 5, [(10, 58, 0, "", "")]), (10, .istore 5, 2, 0, []), (12, .iload 5, 2, 0, []), (14, .ifCond .eq 6, 3, 0, []), (17, .iload 5, 2, 0, []), (19, .ireturn, 1, 0, []), (20, .bipush (-9), 2, 0, []), (22, .istore 6, 2, 0, []), (24, .bipush 9, 2, 0, []), (26, .istore 7, 2, 0, []), (28, .iconst 0, 1, 0, []), (29, .istore 8, 2, 0, []), (31, .iload 8, 2, 0, []), (33, .sipush 256, 3, 0, []), (36, .if_icmp .ge 55, 3, 0, []), (39, .iload 8, 2, 0, []), (41, .invokestatic 180, 3, 1, [(0, 142, 2, "", "")]), (44, .istore 9, 2, 0, []), (46, .iload 9, 2, 0, []), (48, .iload 7, 2, 0, []), (50, .if_icmp .lt 6, 3, 0, []), (53, .goto 32, 3, 0, []), (56, .aload_n 0, 1, 0, []), (57, .aload_n 0, 1, 0, []), (58, .getfield 18, 3, 0, [(10, 1, 0, "", "")]), (61, .iload 8, 2, 0, []), (63, .ixor, 1, 0, []), (64, .invokevirtual 138, 3, 1, [(10, 59, 0, "", "")]), (67, .aload_n 0, 1, 0, []), (68, .getfield 58, 3, 2, [(10, 9, 0, "", "")]), (71, .getfield 152, 3, 0, [(4, 4, 0, "", "")]), (74, .ifCond .eq 11, 3, 0, []), (77, .iload 8, 2, 0, []), (79, .istore 6, 2, 0, [])]
def tb_X10_study_1 : List (Nat × zO) := [(81, .iload 9, 2, 0, []), (83, .istore 7, 2, 0, []), (85, .iinc 8 1, 3, 0, []), (88, .goto (-57), 3, 0, []), (91, .iload 6, 2, 0, []), (93, .ireturn, 1, 0, [])]
def tb_X10_study : List (Nat × zO) := tb_X10_study_0 ++ tb_X10_study_1
def tb_X10_game : List (Nat × zO) := [(0, .iload_n 1, 1, 0, []), (1, .iconst 1, 1, 0, []), (2, .iconst 4, 1, 0, []), (3, .invokestatic 81, 3, 3, [(0, 81, 2, "", "")]), (6, .ifCond .ne 6, 3, 0, []), (9, .bipush (-2), 2, 0, []), (11, .ireturn, 1, 0, []), (12, .aload_n 0, 1, 0, []), (13, .getfield 12, 3, 2, [(10, 0, 0, "", "")]), (16, .getfield 104, 3, 0, [(1, 1, 0, "", "")]), (19, .ifCond .ne 6, 3, 0, []), (22, .bipush (-3), 2, 0, []), (24, .ireturn, 1, 0, []), (25, .aload_n 0, 1, 0, []), (26, .getfield 58, 3, 2, [(10, 9, 0, "", "")]), (29, .aload_n 0, 1, 0, []), (30, .getfield 12, 3, 2, [(10, 0, 0, "", "")]), (33, .getfield 159, 3, 0, [(1, 0, 0, "", "")]), (36, .aload_n 0, 1, 0, []), (37, .getfield 18, 3, 0, [(10, 1, 0, "", "")]), (40, .aload_n 0, 1, 0, []), (41, .getfield 22, 3, 0, [(10, 2, 0, "", "")]), (44, .invokevirtual 162, 3, 3, [(4, 19, 0, "", "")]), (47, .aload_n 0, 1, 0, []), (48, .getfield 72, 3, 2, [(10, 11, 0, "", "")]), (51, .aload_n 0, 1, 0, []), (52, .getfield 12, 3, 2, [(10, 0, 0, "", "")]), (55, .aload_n 0, 1, 0, []), (56, .getfield 58, 3, 2, [(10, 9, 0, "", "")]), (59, .iload_n 1, 1, 0, []), (60, .invokevirtual 185, 3, 3, [(2, 12, 0, "", "")]), (63, .ireturn, 1, 0, [])]
def tb_X10_porter_0 : List (Nat × zO) := [(0, .aload_n 0, 1, 0, []), (1, .getfield 12, 3, 2, [(10, 0, 0, "", "")]), (4, .iload_n 2, 1, 0, []), (5, .invokevirtual 105, 3, 1, [(1, 6, 0, "", "")]), (8, .astore 4, 2, 0, []), (10, .aload 4, 2, 0, []), (12, .ifnull 22, 3, 0, []), (15, .iload_n 1, 1, 0, []), (16, .iconst 0, 1, 0, []), (17, .bipush 8, 2, 0, []), (19, .invokestatic 81, 3, 3, [(0, 81, 2, "", "")]), (22, .ifCond .eq 12, 3, 0, []), (25, .iload_n 3, 1, 0, []), (26, .iconst 0, 1, 0, []), (27, .iconst 1, 1, 0, []), (28, .invokestatic 81, 3, 3, [(0, 81, 2, "", "")]), (31, .ifCond .ne 7, 3, 0, []), (34, .ldc2_w 189, 3, (-9223372036854775808), []), (37, .lreturn, 1, 0, []), (38, .aload 4, 2, 0, []), (40, .iload_n 1, 1, 0, []), (41, .invokevirtual 191, 3, 1, [(0, 3, 55, "CorpseTales$Tale", "CorpseTales$Tale"), (5, 3, 55, "CorpseTales$Tale", "CorpseTales$Tale"), (8, 45, 0, "", "")]), (44, .istore 5, 2, 0, []), (46, .bipush 64, 2, 0, []), (48, .istore 6, 2, 0, []), (50, .iload 6, 2, 0, []), (52, .iconst 1, 1, 0, []), (53, .if_icmp .le 25, 3, 0, []), (56, .iload 5, 2, 0, []), (58, .iconst 2, 1, 0, []), (59, .irem, 1, 0, []), (60, .ifCond .ne 18, 3, 0, []), (63, .iload 5, 2, 0, []), (65, .iconst 2, 1, 0, []), (66, .idiv, 1, 0, []), (67, .istore 5, 2, 0, []), (69, .iload 6, 2, 0, []), (71, .iconst 2, 1, 0, []), (72, .idiv, 1, 0, []), (73, .istore 6, 2, 0, [])]
def tb_X10_porter_1 : List (Nat × zO) := [(75, .goto (-25), 3, 0, []), (78, .iload_n 3, 1, 0, []), (79, .ifCond .ne 9, 3, 0, []), (82, .iload 5, 2, 0, []), (84, .i2l, 1, 0, []), (85, .goto 6, 3, 0, []), (88, .iload 6, 2, 0, []), (90, .i2l, 1, 0, []), (91, .lreturn, 1, 0, [])]
def tb_X10_porter : List (Nat × zO) := tb_X10_porter_0 ++ tb_X10_porter_1
def tb_X10_reading : List (Nat × zO) := [(0, .aload_n 0, 1, 0, []), (1, .getfield 12, 3, 2, [(10, 0, 0, "", "")]), (4, .iload_n 1, 1, 0, []), (5, .invokevirtual 105, 3, 1, [(1, 6, 0, "", "")]), (8, .ifnonnull 5, 3, 0, []), (11, .iconst (-1), 1, 0, []), (12, .ireturn, 1, 0, []), (13, .iload_n 2, 1, 0, []), (14, .bipush (-9), 2, 0, []), (16, .if_icmp .eq 16, 3, 0, []), (19, .aload_n 0, 1, 0, []), (20, .getfield 12, 3, 2, [(10, 0, 0, "", "")]), (23, .iload_n 2, 1, 0, []), (24, .invokevirtual 105, 3, 1, [(1, 6, 0, "", "")]), (27, .ifnonnull 5, 3, 0, []), (30, .iconst (-1), 1, 0, []), (31, .ireturn, 1, 0, []), (32, .iload_n 3, 1, 0, []), (33, .iconst 0, 1, 0, []), (34, .bipush 9, 2, 0, []), (36, .invokestatic 81, 3, 3, [(0, 81, 2, "", "")]), (39, .ifCond .ne 6, 3, 0, []), (42, .bipush (-2), 2, 0, []), (44, .ireturn, 1, 0, []), (45, .aload_n 0, 1, 0, []), (46, .getfield 28, 3, 2, [(10, 3, 0, "", "")]), (49, .iload_n 1, 1, 0, []), (50, .iload_n 2, 1, 0, []), (51, .iload_n 3, 1, 0, []), (52, .invokevirtual 194, 3, 3, [(6, 30, 0, "", "")]), (55, .ireturn, 1, 0, [])]
def tb_X10_back : List (Nat × zO) := [(0, .iload_n 1, 1, 0, []), (1, .iconst 0, 1, 0, []), (2, .aload_n 0, 1, 0, []), (3, .getfield 28, 3, 2, [(10, 3, 0, "", "")]), (6, .getfield 101, 3, 0, [(6, 0, 0, "", "")]), (9, .invokestatic 81, 3, 3, [(0, 81, 2, "", "")]), (12, .ifCond .ne 6, 3, 0, []), (15, .bipush (-2), 2, 0, []), (17, .ireturn, 1, 0, []), (18, .aload_n 0, 1, 0, []), (19, .getfield 28, 3, 2, [(10, 3, 0, "", "")]), (22, .aload_n 0, 1, 0, []), (23, .getfield 28, 3, 2, [(10, 3, 0, "", "")]), (26, .getfield 101, 3, 0, [(6, 0, 0, "", "")]), (29, .iload_n 1, 1, 0, []), (30, .isub, 1, 0, []), (31, .putfield 101, 3, 0, [(6, 0, 0, "", "")]), (34, .aload_n 0, 1, 0, []), (35, .getfield 28, 3, 2, [(10, 3, 0, "", "")]), (38, .getfield 101, 3, 0, [(6, 0, 0, "", "")]), (41, .ireturn, 1, 0, [])]
def tb_X10_fits_0 : List (Nat × zO) := [(0, .iload_n 1, 1, 0, []), (1, .iconst 0, 1, 0, []), (2, .iconst 2, 1, 0, []), (3, .invokestatic 81, 3, 3, [(0, 81, 2, "", "")]), (6, .ifCond .ne 6, 3, 0, []), (9, .bipush (-2), 2, 0, []), (11, .ireturn, 1, 0, []), (12, .aload_n 0, 1, 0, []), (13, .getfield 12, 3, 2, [(10, 0, 0, "", "")]), (16, .getfield 104, 3, 0, [(1, 1, 0, "", "")]), (19, .ifCond .ne 6, 3, 0, []), (22, .bipush (-3), 2, 0, []), (24, .ireturn, 1, 0, []), (25, .iconst 0, 1, 0, []), (26, .istore_n 2, 1, 0, []), (27, .bipush (-9), 2, 0, []), (29, .istore_n 3, 1, 0, []), (30, .iconst 0, 1, 0, []), (31, .istore 4, 2, 0, []), (33, .iconst 0, 1, 0, []), (34, .istore 5, 2, 0, []), (36, .iload 5, 2, 0, []), (38, .sipush 256, 3, 0, []), (41, .if_icmp .ge 38, 3, 0, []), (44, .aload_n 0, 1, 0, []), (45, .iload 5, 2, 0, []), (47, .invokevirtual 197, 3, 1, [(10, 67, 0, "", "")]), (50, .ifCond .ne 6, 3, 0, []), (53, .goto 20, 3, 0, []), (56, .iload_n 2, 1, 0, []), (57, .ifCond .ne 6, 3, 0, []), (60, .iload 5, 2, 0, []), (62, .istore_n 3, 1, 0, []), (63, .iinc 2 1, 3, 0, []), (66, .iload 4, 2, 0, []), (68, .iload 5, 2, 0, []), (70, .ior, 1, 0, []), (71, .istore 4, 2, 0, []), (73, .iinc 5 1, 3, 0, []), (76, .goto (-40), 3, 0, [])]
def tb_X10_fits_1 : List (Nat × zO) := [(79, .iload_n 1, 1, 0, []), (80, .ifCond .ne 5, 3, 0, []), (83, .iload_n 2, 1, 0, []), (84, .ireturn, 1, 0, []), (85, .iload_n 1, 1, 0, []), (86, .iconst 1, 1, 0, []), (87, .if_icmp .ne 7, 3, 0, []), (90, .iload_n 3, 1, 0, []), (91, .goto 9, 3, 0, []), (94, .sipush 255, 3, 0, []), (97, .iload 4, 2, 0, []), (99, .isub, 1, 0, []), (100, .ireturn, 1, 0, [])]
def tb_X10_fits : List (Nat × zO) := tb_X10_fits_0 ++ tb_X10_fits_1
def tb_X10_fitsReadings_0 : List (Nat × zO) := [(0, .iconst 0, 1, 0, []), (1, .istore_n 2, 1, 0, []), (2, .iload_n 2, 1, 0, []), (3, .aload_n 0, 1, 0, []), (4, .getfield 28, 3, 2, [(10, 3, 0, "", "")]), (7, .getfield 101, 3, 0, [(6, 0, 0, "", "")]), (10, .if_icmp .ge 103, 3, 0, []), (13, .iload_n 2, 1, 0, []), (14, .bipush 8, 2, 0, []), (16, .if_icmp .ge 97, 3, 0, []), (19, .aload_n 0, 1, 0, []), (20, .getfield 58, 3, 2, [(10, 9, 0, "", "")]), (23, .aload_n 0, 1, 0, []), (24, .getfield 12, 3, 2, [(10, 0, 0, "", "")]), (27, .getfield 159, 3, 0, [(1, 0, 0, "", "")]), (30, .iload_n 1, 1, 0, []), (31, .aload_n 0, 1, 0, []), (32, .getfield 22, 3, 0, [(10, 2, 0, "", "")]), (35, .invokevirtual 162, 3, 3, [(4, 19, 0, "", "")]), (38, .aload_n 0, 1, 0, []), (39, .getfield 58, 3, 2, [(10, 9, 0, "", "")]), (42, .aload_n 0, 1, 0, []), (43, .getfield 12, 3, 2, [(10, 0, 0, "", "")]), (46, .aload_n 0, 1, 0, []), (47, .getfield 28, 3, 2, [(10, 3, 0, "", "")]), (50, .getfield 201, 3, 2, [(6, 1, 0, "", "")]), (53, .iload_n 2, 1, 0, []), (54, .iaload, 1, 0, []), (55, .invokevirtual 105, 3, 1, [(1, 6, 0, "", "")]), (58, .iconst 1, 1, 0, []), (59, .invokevirtual 166, 3, 2, [(4, 21, 0, "", "")]), (62, .aload_n 0, 1, 0, []), (63, .getfield 58, 3, 2, [(10, 9, 0, "", "")]), (66, .aload_n 0, 1, 0, []), (67, .getfield 12, 3, 2, [(10, 0, 0, "", "")]), (70, .aload_n 0, 1, 0, []), (71, .getfield 28, 3, 2, [(10, 3, 0, "", "")]), (74, .getfield 204, 3, 2, [(6, 2, 0, "", "")]), (77, .iload_n 2, 1, 0, []), (78, .iaload, 1, 0, [])]
def tb_X10_fitsReadings_1 : List (Nat × zO) := [(79, .invokevirtual 105, 3, 1, [(1, 6, 0, "", "")]), (82, .iconst 1, 1, 0, []), (83, .invokevirtual 166, 3, 2, [(4, 21, 0, "", "")]), (86, .aload_n 0, 1, 0, []), (87, .getfield 58, 3, 2, [(10, 9, 0, "", "")]), (90, .getfield 142, 3, 0, [(4, 0, 0, "", "")]), (93, .aload_n 0, 1, 0, []), (94, .getfield 28, 3, 2, [(10, 3, 0, "", "")]), (97, .getfield 207, 3, 2, [(6, 3, 0, "", "")]), (100, .iload_n 2, 1, 0, []), (101, .iaload, 1, 0, []), (102, .if_icmp .eq 5, 3, 0, []), (105, .iconst 0, 1, 0, []), (106, .ireturn, 1, 1, []), (107, .iinc 2 1, 3, 0, []), (110, .goto (-108), 3, 0, []), (113, .iconst 1, 1, 0, []), (114, .ireturn, 1, 1, [])]
def tb_X10_fitsReadings : List (Nat × zO) := tb_X10_fitsReadings_0 ++ tb_X10_fitsReadings_1
def tb_X10_sheet : List (Nat × zO) := [(0, .aload_n 0, 1, 0, []), (1, .iconst 0, 1, 0, []), (2, .putfield 45, 3, 0, [(10, 6, 0, "", "")]), (5, .aload_n 0, 1, 0, []), (6, .iload_n 1, 1, 0, []), (7, .invokevirtual 77, 3, 1, [(10, 79, 0, "", "")]), (10, .astore 4, 2, 0, []), (12, .aload 4, 2, 0, []), (14, .ifnonnull 5, 3, 0, []), (17, .iconst (-1), 1, 0, []), (18, .ireturn, 1, 0, []), (19, .iload_n 2, 1, 0, []), (20, .iconst 0, 1, 0, []), (21, .iconst 2, 1, 0, []), (22, .invokestatic 81, 3, 3, [(0, 81, 2, "", "")]), (25, .ifCond .eq 9, 3, 0, []), (28, .iload_n 3, 1, 0, []), (29, .bipush 60, 2, 0, []), (31, .if_icmp .le 6, 3, 0, []), (34, .bipush (-2), 2, 0, []), (36, .ireturn, 1, 0, []), (37, .iload_n 3, 1, 0, []), (38, .ifCond .ge 9, 3, 0, []), (41, .aload_n 0, 1, 0, []), (42, .iconst 4, 1, 0, []), (43, .invokevirtual 89, 3, 1, [(10, 80, 0, "", "")]), (46, .ireturn, 1, 0, []), (47, .aload 4, 2, 0, []), (49, .iload_n 2, 1, 0, []), (50, .iload_n 3, 1, 0, []), (51, .invokevirtual 210, 3, 2, [(7, 34, 0, "", "")]), (54, .iconst 1, 1, 0, []), (55, .ireturn, 1, 0, [])]
def tb_X10_lose : List (Nat × zO) := [(0, .aload_n 0, 1, 0, []), (1, .iload_n 1, 1, 0, []), (2, .invokevirtual 77, 3, 1, [(10, 79, 0, "", "")]), (5, .astore_n 2, 1, 0, []), (6, .aload_n 2, 1, 0, []), (7, .ifnonnull 5, 3, 0, []), (10, .iconst (-1), 1, 0, []), (11, .ireturn, 1, 0, []), (12, .aload_n 2, 1, 0, []), (13, .invokevirtual 214, 3, 0, [(7, 32, 0, "", "")]), (16, .ifCond .eq 5, 3, 0, []), (19, .iconst 0, 1, 0, []), (20, .ireturn, 1, 0, []), (21, .aload_n 2, 1, 0, []), (22, .invokevirtual 218, 3, 0, [(7, 33, 0, "", "")]), (25, .iconst 1, 1, 0, []), (26, .ireturn, 1, 0, [])]
def tb_X10_put : List (Nat × zO) := [(0, .aload_n 0, 1, 0, []), (1, .iconst 0, 1, 0, []), (2, .putfield 45, 3, 0, [(10, 6, 0, "", "")]), (5, .aload_n 0, 1, 0, []), (6, .iload_n 1, 1, 0, []), (7, .invokevirtual 77, 3, 1, [(10, 79, 0, "", "")]), (10, .astore 4, 2, 0, []), (12, .aload 4, 2, 0, []), (14, .ifnonnull 5, 3, 0, []), (17, .iconst (-1), 1, 0, []), (18, .ireturn, 1, 0, []), (19, .aload 4, 2, 0, []), (21, .invokevirtual 214, 3, 0, [(7, 32, 0, "", "")]), (24, .ifCond .eq 9, 3, 0, []), (27, .aload_n 0, 1, 0, []), (28, .iconst 1, 1, 0, []), (29, .invokevirtual 89, 3, 1, [(10, 80, 0, "", "")]), (32, .ireturn, 1, 0, []), (33, .aload 4, 2, 0, []), (35, .iload_n 2, 1, 0, []), (36, .invokevirtual 221, 3, 1, [(7, 35, 0, "", "")]), (39, .ifCond .ne 9, 3, 0, []), (42, .aload_n 0, 1, 0, []), (43, .iconst 3, 1, 0, []), (44, .invokevirtual 89, 3, 1, [(10, 80, 0, "", "")]), (47, .ireturn, 1, 0, []), (48, .aload 4, 2, 0, []), (50, .iload_n 2, 1, 0, []), (51, .iload_n 3, 1, 0, []), (52, .invokevirtual 224, 3, 2, [(7, 40, 0, "", "")]), (55, .iconst 1, 1, 0, []), (56, .ireturn, 1, 0, [])]
def tb_X10_cell : List (Nat × zO) := [(0, .aload_n 0, 1, 0, []), (1, .iconst 0, 1, 0, []), (2, .putfield 45, 3, 0, [(10, 6, 0, "", "")]), (5, .aload_n 0, 1, 0, []), (6, .iload_n 1, 1, 0, []), (7, .invokevirtual 77, 3, 1, [(10, 79, 0, "", "")]), (10, .astore 4, 2, 0, []), (12, .aload 4, 2, 0, []), (14, .ifnull 12, 3, 0, []), (17, .iload_n 3, 1, 0, []), (18, .iconst 0, 1, 0, []), (19, .iconst 2, 1, 0, []), (20, .invokestatic 81, 3, 3, [(0, 81, 2, "", "")]), (23, .ifCond .ne 7, 3, 0, []), (26, .ldc2_w 189, 3, (-9223372036854775808), []), (29, .lreturn, 1, 0, []), (30, .aload_n 0, 1, 0, []), (31, .aload 4, 2, 0, []), (33, .iload_n 3, 1, 0, []), (34, .invokevirtual 227, 3, 1, [(7, 37, 0, "", "")]), (37, .putfield 45, 3, 0, [(10, 6, 0, "", "")]), (40, .aload_n 0, 1, 0, []), (41, .getfield 45, 3, 0, [(10, 6, 0, "", "")]), (44, .ifCond .eq 7, 3, 0, []), (47, .ldc2_w 189, 3, (-9223372036854775808), []), (50, .lreturn, 1, 0, []), (51, .aload 4, 2, 0, []), (53, .iload_n 2, 1, 0, []), (54, .invokevirtual 221, 3, 1, [(7, 35, 0, "", "")]), (57, .ifCond .ne 12, 3, 0, []), (60, .aload_n 0, 1, 0, []), (61, .iconst 3, 1, 0, []), (62, .putfield 45, 3, 0, [(10, 6, 0, "", "")]), (65, .ldc2_w 189, 3, (-9223372036854775808), []), (68, .lreturn, 1, 0, []), (69, .aload 4, 2, 0, []), (71, .iload_n 2, 1, 0, []), (72, .invokevirtual 156, 3, 1, [(7, 39, 0, "", "")]), (75, .i2l, 1, 0, []), (76, .lreturn, 1, 0, [])]
def tb_X10_copy_0 : List (Nat × zO) := [(0, .aload_n 0, 1, 0, []), (1, .iconst 0, 1, 0, []), (2, .putfield 45, 3, 0, [(10, 6, 0, "", "")]), (5, .aload_n 0, 1, 0, []), (6, .iload_n 1, 1, 0, []), (7, .invokevirtual 77, 3, 1, [(10, 79, 0, "", "")]), (10, .astore 6, 2, 0, []), (12, .aload_n 0, 1, 0, []), (13, .iload_n 3, 1, 0, []), (14, .invokevirtual 77, 3, 1, [(10, 79, 0, "", "")]), (17, .astore 7, 2, 0, []), (19, .aload 6, 2, 0, []), (21, .ifnull 8, 3, 0, []), (24, .aload 7, 2, 0, []), (26, .ifnonnull 5, 3, 0, []), (29, .iconst (-1), 1, 0, []), (30, .ireturn, 1, 0, []), (31, .aload 6, 2, 0, []), (33, .invokevirtual 214, 3, 0, [(7, 32, 0, "", "")]), (36, .ifCond .ne 11, 3, 0, []), (39, .aload 7, 2, 0, []), (41, .invokevirtual 214, 3, 0, [(7, 32, 0, "", "")]), (44, .ifCond .eq 9, 3, 0, []), (47, .aload_n 0, 1, 0, []), (48, .iconst 1, 1, 0, []), (49, .invokevirtual 89, 3, 1, [(10, 80, 0, "", "")]), (52, .ireturn, 1, 0, []), (53, .aload 6, 2, 0, []), (55, .getfield 230, 3, 0, [(7, 0, 0, "", "")]), (58, .aload 7, 2, 0, []), (60, .getfield 230, 3, 0, [(7, 0, 0, "", "")]), (63, .if_icmp .eq 9, 3, 0, []), (66, .aload_n 0, 1, 0, []), (67, .iconst 2, 1, 0, []), (68, .invokevirtual 89, 3, 1, [(10, 80, 0, "", "")]), (71, .ireturn, 1, 0, []), (72, .aload 6, 2, 0, []), (74, .iload_n 2, 1, 0, []), (75, .iload 5, 2, 0, []), (77, .invokevirtual 233, 3, 2, [(7, 36, 0, "", "")])]
def tb_X10_copy_1 : List (Nat × zO) := [(80, .ifCond .eq 15, 3, 0, []), (83, .aload 7, 2, 0, []), (85, .iload 4, 2, 0, []), (87, .iload 5, 2, 0, []), (89, .invokevirtual 233, 3, 2, [(7, 36, 0, "", "")]), (92, .ifCond .ne 9, 3, 0, []), (95, .aload_n 0, 1, 0, []), (96, .iconst 3, 1, 0, []), (97, .invokevirtual 89, 3, 1, [(10, 80, 0, "", "")]), (100, .ireturn, 1, 0, []), (101, .aload 6, 2, 0, []), (103, .getfield 236, 3, 2, [(7, 2, 0, "", "")]), (106, .iload_n 2, 1, 0, []), (107, .aload 7, 2, 0, []), (109, .getfield 236, 3, 2, [(7, 2, 0, "", "")]), (112, .iload 4, 2, 0, []), (114, .iload 5, 2, 0, []), (116, .invokestatic 239, 3, (-2), []), (119, .iload 5, 2, 0, []), (121, .ireturn, 1, 0, [])]
def tb_X10_copy : List (Nat × zO) := tb_X10_copy_0 ++ tb_X10_copy_1
def tb_X10_tell : List (Nat × zO) := [(0, .aload_n 0, 1, 0, []), (1, .getfield 12, 3, 2, [(10, 0, 0, "", "")]), (4, .iload_n 1, 1, 0, []), (5, .invokevirtual 105, 3, 1, [(1, 6, 0, "", "")]), (8, .astore_n 2, 1, 0, []), (9, .aload_n 2, 1, 0, []), (10, .ifnonnull 7, 3, 0, []), (13, .iconst (-1), 1, 0, []), (14, .goto 11, 3, 0, []), (17, .aload_n 2, 1, 0, []), (18, .aload_n 0, 1, 0, []), (19, .getfield 41, 3, 2, [(10, 5, 0, "", "")]), (22, .invokevirtual 245, 3, 1, [(0, 4, 56, "CorpseTales$Tale", "CorpseTales$Tale"), (5, 27, 56, "CorpseTales$Tale", "CorpseTales$Tale"), (8, 46, 0, "", "")]), (25, .ireturn, 1, 0, [])]
def tb_X10_whisper : List (Nat × zO) := [(0, .aload_n 0, 1, 0, []), (1, .getfield 12, 3, 2, [(10, 0, 0, "", "")]), (4, .iload_n 1, 1, 0, []), (5, .invokevirtual 105, 3, 1, [(1, 6, 0, "", "")]), (8, .astore_n 2, 1, 0, []), (9, .aload_n 2, 1, 0, []), (10, .ifnonnull 7, 3, 0, []), (13, .iconst (-1), 1, 0, []), (14, .goto 11, 3, 0, []), (17, .aload_n 2, 1, 0, []), (18, .aload_n 0, 1, 0, []), (19, .getfield 41, 3, 2, [(10, 5, 0, "", "")]), (22, .invokevirtual 249, 3, 1, [(0, 48, 1, "CorpseTales$Tale", "CorpseTales$Tale"), (5, 28, 58, "CorpseTales$Tale", "CorpseTales$Tale"), (8, 48, 0, "", "")]), (25, .ireturn, 1, 0, [])]
def tb_X10_as : List (Nat × zO) := [(0, .aload_n 0, 1, 0, []), (1, .iconst 0, 1, 0, []), (2, .putfield 45, 3, 0, [(10, 6, 0, "", "")]), (5, .aload_n 0, 1, 0, []), (6, .getfield 12, 3, 2, [(10, 0, 0, "", "")]), (9, .iload_n 1, 1, 0, []), (10, .invokevirtual 105, 3, 1, [(1, 6, 0, "", "")]), (13, .astore_n 3, 1, 0, []), (14, .aload_n 3, 1, 0, []), (15, .ifnonnull 5, 3, 0, []), (18, .iconst (-1), 1, 0, []), (19, .ireturn, 1, 0, []), (20, .iload_n 2, 1, 0, []), (21, .iconst 0, 1, 0, []), (22, .iconst 2, 1, 0, []), (23, .invokestatic 81, 3, 3, [(0, 81, 2, "", "")]), (26, .ifCond .ne 6, 3, 0, []), (29, .bipush (-2), 2, 0, []), (31, .ireturn, 1, 0, []), (32, .aload_n 3, 1, 0, []), (33, .iload_n 2, 1, 0, []), (34, .invokestatic 252, 3, 2, [(0, 83, 2, "", "")]), (37, .ifCond .eq 7, 3, 0, []), (40, .iconst 1, 1, 0, []), (41, .goto 8, 3, 0, []), (44, .aload_n 0, 1, 0, []), (45, .iconst 2, 1, 0, []), (46, .invokevirtual 89, 3, 1, [(10, 80, 0, "", "")]), (49, .ireturn, 1, 0, [])]
def tb_X10_trace : List (Nat × zO) := [(0, .aload_n 0, 1, 0, []), (1, .getfield 41, 3, 2, [(10, 5, 0, "", "")]), (4, .getfield 256, 3, 0, [(9, 0, 0, "", "")]), (7, .ireturn, 1, 0, [])]
def tb_X10_fault : List (Nat × zO) := [(0, .aload_n 0, 1, 0, []), (1, .getfield 45, 3, 0, [(10, 6, 0, "", "")]), (4, .ireturn, 1, 0, [])]
def tb_X10_many : List (Nat × zO) := [(0, .iload_n 1, 1, 0, []), (1, .tableswitch 69 0 4 #[35, 43, 51, 56, 61], 35, 0, []), (36, .aload_n 0, 1, 0, []), (37, .getfield 12, 3, 2, [(10, 0, 0, "", "")]), (40, .getfield 104, 3, 0, [(1, 1, 0, "", "")]), (43, .ireturn, 1, 0, []), (44, .aload_n 0, 1, 0, []), (45, .getfield 12, 3, 2, [(10, 0, 0, "", "")]), (48, .getfield 159, 3, 0, [(1, 0, 0, "", "")]), (51, .ireturn, 1, 0, []), (52, .aload_n 0, 1, 0, []), (53, .getfield 18, 3, 0, [(10, 1, 0, "", "")]), (56, .ireturn, 1, 0, []), (57, .aload_n 0, 1, 0, []), (58, .getfield 22, 3, 0, [(10, 2, 0, "", "")]), (61, .ireturn, 1, 0, []), (62, .aload_n 0, 1, 0, []), (63, .getfield 28, 3, 2, [(10, 3, 0, "", "")]), (66, .getfield 101, 3, 0, [(6, 0, 0, "", "")]), (69, .ireturn, 1, 0, []), (70, .bipush (-2), 2, 0, []), (72, .ireturn, 1, 0, [])]
def tb_X10_sheetAt : List (Nat × zO) := [(0, .iload_n 1, 1, 0, []), (1, .iconst 0, 1, 0, []), (2, .iconst 3, 1, 0, []), (3, .invokestatic 81, 3, 3, [(0, 81, 2, "", "")]), (6, .ifCond .eq 12, 3, 0, []), (9, .aload_n 0, 1, 0, []), (10, .getfield 34, 3, 2, [(10, 4, 0, "", "")]), (13, .iload_n 1, 1, 0, []), (14, .aaload, 1, 0, []), (15, .goto 4, 3, 0, []), (18, .aconst_null, 1, 0, []), (19, .areturn, 1, 0, [])]
def tb_X10_failing : List (Nat × zO) := [(0, .aload_n 0, 1, 0, []), (1, .iload_n 1, 1, 0, []), (2, .putfield 45, 3, 0, [(10, 6, 0, "", "")]), (5, .bipush (-10), 2, 0, []), (7, .iload_n 1, 1, 0, []), (8, .isub, 1, 0, []), (9, .ireturn, 1, 0, [])]
def tb_X10_isWithin : List (Nat × zO) := [(0, .iload_n 0, 1, 0, []), (1, .iload_n 1, 1, 0, []), (2, .if_icmp .lt 12, 3, 0, []), (5, .iload_n 0, 1, 0, []), (6, .iload_n 2, 1, 0, []), (7, .if_icmp .gt 7, 3, 0, []), (10, .iconst 1, 1, 0, []), (11, .goto 4, 3, 0, []), (14, .iconst 0, 1, 0, []), (15, .ireturn, 1, 1, [])]
def tb_X10_has : List (Nat × zO) := [(0, .iload_n 0, 1, 0, []), (1, .iload_n 1, 1, 0, []), (2, .ishr, 1, 0, []), (3, .iconst 1, 1, 0, []), (4, .iand, 1, 0, []), (5, .ifCond .eq 7, 3, 0, []), (8, .iconst 1, 1, 0, []), (9, .goto 4, 3, 0, []), (12, .iconst 0, 1, 0, []), (13, .ireturn, 1, 1, [])]
def tb_X10_isOfKind : List (Nat × zO) := [(0, .iload_n 1, 1, 0, []), (1, .iconst 2, 1, 0, []), (2, .if_icmp .ne 8, 3, 0, []), (5, .aload_n 0, 1, 0, []), (6, .instanceof 259, 3, 0, [(8, 0, 2, "CorpseTales$OldTale", ""), (0, 0, 4, "CorpseTales$OldTale", ""), (5, 1, 0, "CorpseTales$OldTale", "")]), (9, .ireturn, 1, 1, []), (10, .iload_n 1, 1, 0, []), (11, .ifCond .eq 10, 3, 0, []), (14, .aload_n 0, 1, 0, []), (15, .instanceof 261, 3, 0, [(8, 0, 3, "CorpseTales$DoubleTale", ""), (0, 1, 0, "CorpseTales$DoubleTale", ""), (5, 1, 1, "CorpseTales$DoubleTale", "")]), (18, .ifCond .eq 7, 3, 0, []), (21, .iconst 1, 1, 0, []), (22, .goto 4, 3, 0, []), (25, .iconst 0, 1, 0, []), (26, .ireturn, 1, 1, [])]
def tb_X10_newNights : List (Nat × zO) := [(0, .iload_n 0, 1, 0, []), (1, .iconst 0, 1, 0, []), (2, .invokestatic 263, 3, (-3), []), (5, .anewarray 55, 3, 14, []), (8, .astore_n 1, 1, 0, []), (9, .iconst 0, 1, 0, []), (10, .istore_n 2, 1, 0, []), (11, .iload_n 2, 1, 0, []), (12, .iload_n 0, 1, 0, []), (13, .if_icmp .ge 19, 3, 0, []), (16, .aload_n 1, 1, 0, []), (17, .iload_n 2, 1, 0, []), (18, .new 55, 3, 0, [(4, 8, 0, "", "")]), (21, .dup, 1, 0, []), (22, .invokespecial 57, 3, 0, [(0, 18, 4, "", "")]), (25, .aastore, 1, 0, []), (26, .iinc 2 1, 3, 0, []), (29, .goto (-18), 3, 0, []), (32, .aload_n 1, 1, 0, []), (33, .areturn, 1, 0, [])]
def tb_X11_init_0 : List (Nat × zO) := [(0, .aload_n 0, 1, 0, []), (1, .invokespecial 1, 3, (-1), []), (4, .aload_n 0, 1, 0, []), (5, .bipush 8, 2, 0, []), (7, .newarray .int, 2, 0, []), (9, .putfield 7, 3, 2, [(11, 3, 0, "", "")]), (12, .aload_n 0, 1, 0, []), (13, .bipush 8, 2, 0, []), (15, .newarray .int, 2, 0, []), (17, .putfield 13, 3, 2, [(11, 4, 0, "", "")]), (20, .aload_n 0, 1, 0, []), (21, .bipush 8, 2, 0, []), (23, .newarray .int, 2, 0, []), (25, .putfield 16, 3, 2, [(11, 5, 0, "", "")]), (28, .aload_n 0, 1, 0, []), (29, .bipush 8, 2, 0, []), (31, .newarray .int, 2, 0, []), (33, .putfield 19, 3, 2, [(11, 6, 0, "", "")]), (36, .aload_n 0, 1, 0, []), (37, .bipush 8, 2, 0, []), (39, .newarray .int, 2, 0, []), (41, .putfield 22, 3, 2, [(11, 7, 0, "", "")]), (44, .aload_n 0, 1, 0, []), (45, .bipush 8, 2, 0, []), (47, .newarray .int, 2, 0, []), (49, .putfield 25, 3, 2, [(11, 13, 0, "", "")]), (52, .aload_n 0, 1, 0, []), (53, .bipush 8, 2, 0, []), (55, .newarray .int, 2, 0, []), (57, .putfield 28, 3, 2, [(11, 14, 0, "", "")]), (60, .aload_n 0, 1, 0, []), (61, .bipush 8, 2, 0, []), (63, .newarray .int, 2, 0, []), (65, .putfield 31, 3, 2, [(11, 15, 0, "", "")]), (68, .aload_n 0, 1, 0, []), (69, .bipush 8, 2, 0, []), (71, .newarray .int, 2, 0, []), (73, .putfield 34, 3, 2, [(11, 16, 0, "", "")]), (76, .aload_n 0, 1, 0, []), (77, .bipush 8, 2, 0, [])]
def tb_X11_init_1 : List (Nat × zO) := [(79, .newarray .int, 2, 0, []), (81, .putfield 37, 3, 2, [(11, 17, 0, "", "")]), (84, .aload_n 0, 1, 0, []), (85, .iconst 5, 1, 0, []), (86, .newarray .int, 2, 0, []), (88, .putfield 40, 3, 2, [(11, 24, 0, "", "")]), (91, .aload_n 0, 1, 0, []), (92, .iconst 5, 1, 0, []), (93, .newarray .int, 2, 0, []), (95, .putfield 43, 3, 2, [(11, 25, 0, "", "")]), (98, .aload_n 0, 1, 0, []), (99, .bipush 6, 2, 0, []), (101, .newarray .int, 2, 0, []), (103, .putfield 46, 3, 2, [(11, 27, 0, "", "")]), (106, .aload_n 0, 1, 0, []), (107, .bipush 6, 2, 0, []), (109, .newarray .int, 2, 0, []), (111, .putfield 49, 3, 2, [(11, 28, 0, "", "")]), (114, .aload_n 0, 1, 0, []), (115, .bipush 6, 2, 0, []), (117, .newarray .int, 2, 0, []), (119, .putfield 52, 3, 2, [(11, 29, 0, "", "")]), (122, .aload_n 0, 1, 0, []), (123, .bipush 6, 2, 0, []), (125, .newarray .int, 2, 0, []), (127, .putfield 55, 3, 2, [(11, 30, 0, "", "")]), (130, .aload_n 0, 1, 0, []), (131, .bipush 6, 2, 0, []), (133, .newarray .int, 2, 0, []), (135, .putfield 58, 3, 2, [(11, 31, 0, "", "")]), (138, .aload_n 0, 1, 0, []), (139, .bipush 6, 2, 0, []), (141, .newarray .int, 2, 0, []), (143, .putfield 61, 3, 2, [(11, 32, 0, "", "")]), (146, .aload_n 0, 1, 0, []), (147, .bipush 6, 2, 0, []), (149, .newarray .int, 2, 0, []), (151, .putfield 64, 3, 2, [(11, 33, 0, "", "")]), (154, .aload_n 0, 1, 0, []), (155, .bipush 8, 2, 0, [])]
def tb_X11_init_2 : List (Nat × zO) := [(157, .newarray .int, 2, 0, []), (159, .putfield 67, 3, 2, [(11, 35, 0, "", "")]), (162, .aload_n 0, 1, 0, []), (163, .bipush 8, 2, 0, []), (165, .newarray .int, 2, 0, []), (167, .putfield 70, 3, 2, [(11, 36, 0, "", "")]), (170, .aload_n 0, 1, 0, []), (171, .bipush 8, 2, 0, []), (173, .newarray .int, 2, 0, []), (175, .putfield 73, 3, 2, [(11, 37, 0, "", "")]), (178, .aload_n 0, 1, 0, []), (179, .iconst 4, 1, 0, []), (180, .newarray .int, 2, 0, []), (182, .putfield 76, 3, 2, [(11, 38, 0, "", "")]), (185, .aload_n 0, 1, 0, []), (186, .iconst 4, 1, 0, []), (187, .newarray .int, 2, 0, []), (189, .putfield 79, 3, 2, [(11, 39, 0, "", "")]), (192, .aload_n 0, 1, 0, []), (193, .sipush 240, 3, 0, []), (196, .newarray .int, 2, 0, []), (198, .putfield 82, 3, 2, [(11, 40, 0, "", "")]), (201, .aload_n 0, 1, 0, []), (202, .bipush 60, 2, 0, []), (204, .newarray .int, 2, 0, []), (206, .putfield 85, 3, 2, [(11, 41, 0, "", "")]), (209, .iconst 0, 1, 0, []), (210, .istore_n 1, 1, 0, []), (211, .iload_n 1, 1, 0, []), (212, .iconst 4, 1, 0, []), (213, .if_icmp .ge 16, 3, 0, []), (216, .aload_n 0, 1, 0, []), (217, .getfield 76, 3, 2, [(11, 38, 0, "", "")]), (220, .iload_n 1, 1, 0, []), (221, .iconst (-1), 1, 0, []), (222, .iastore, 1, 0, []), (223, .iinc 1 1, 3, 0, []), (226, .goto (-15), 3, 0, []), (229, .return_, 1, 0, [])]
def tb_X11_init : List (Nat × zO) := tb_X11_init_0 ++ tb_X11_init_1 ++ tb_X11_init_2
def tb_X11_in : List (Nat × zO) := [(0, .lload_n 0, 1, 0, []), (1, .lload_n 2, 1, 0, []), (2, .lcmp, 1, 0, []), (3, .ifCond .lt 14, 3, 0, []), (6, .lload_n 0, 1, 0, []), (7, .lload 4, 2, 0, []), (9, .lcmp, 1, 0, []), (10, .ifCond .gt 7, 3, 0, []), (13, .iconst 1, 1, 0, []), (14, .goto 4, 3, 0, []), (17, .iconst 0, 1, 0, []), (18, .ireturn, 1, 1, [])]
def tb_X11_lost : List (Nat × zO) := [(0, .ldc2_w 88, 3, (-9223372036854775808), []), (3, .lreturn, 1, 0, [])]
def tb_X11_isIn : List (Nat × zO) := [(0, .iload_n 0, 1, 0, []), (1, .iload_n 1, 1, 0, []), (2, .ishr, 1, 0, []), (3, .iconst 1, 1, 0, []), (4, .iand, 1, 0, []), (5, .iconst 1, 1, 0, []), (6, .if_icmp .ne 7, 3, 0, []), (9, .iconst 1, 1, 0, []), (10, .goto 4, 3, 0, []), (13, .iconst 0, 1, 0, []), (14, .ireturn, 1, 1, [])]
def tb_X11_bits : List (Nat × zO) := [(0, .iconst 0, 1, 0, []), (1, .istore_n 1, 1, 0, []), (2, .iload_n 0, 1, 0, []), (3, .istore_n 2, 1, 0, []), (4, .iload_n 2, 1, 0, []), (5, .ifCond .le 16, 3, 0, []), (8, .iload_n 1, 1, 0, []), (9, .iload_n 2, 1, 0, []), (10, .iconst 1, 1, 0, []), (11, .iand, 1, 0, []), (12, .iadd, 1, 0, []), (13, .istore_n 1, 1, 0, []), (14, .iload_n 2, 1, 0, []), (15, .iconst 1, 1, 0, []), (16, .ishr, 1, 0, []), (17, .istore_n 2, 1, 0, []), (18, .goto (-14), 3, 0, []), (21, .iload_n 1, 1, 0, []), (22, .ireturn, 1, 0, [])]
def tb_X11_told : List (Nat × zO) := [(0, .lload_n 0, 1, 0, []), (1, .lstore 5, 2, 0, []), (3, .lload_n 2, 1, 0, []), (4, .lstore 7, 2, 0, []), (6, .lload 7, 2, 0, []), (8, .lconst 0, 1, 0, []), (9, .lcmp, 1, 0, []), (10, .ifCond .eq 21, 3, 0, []), (13, .lload 5, 2, 0, []), (15, .lload 7, 2, 0, []), (17, .lrem, 1, 0, []), (18, .lstore 9, 2, 0, []), (20, .lload 7, 2, 0, []), (22, .lstore 5, 2, 0, []), (24, .lload 9, 2, 0, []), (26, .lstore 7, 2, 0, []), (28, .goto (-22), 3, 0, []), (31, .iload 4, 2, 0, []), (33, .ifCond .ne 7, 3, 0, []), (36, .lload_n 0, 1, 0, []), (37, .goto 4, 3, 0, []), (40, .lload_n 2, 1, 0, []), (41, .lload 5, 2, 0, []), (43, .ldiv, 1, 0, []), (44, .lreturn, 1, 0, [])]
def tb_X11_refused : List (Nat × zO) := [(0, .aload_n 0, 1, 0, []), (1, .iconst 0, 1, 0, []), (2, .putfield 90, 3, 0, [(11, 0, 0, "", "")]), (5, .iload_n 1, 1, 0, []), (6, .ireturn, 1, 0, [])]
def tb_X11_failed : List (Nat × zO) := [(0, .aload_n 0, 1, 0, []), (1, .iload_n 1, 1, 0, []), (2, .putfield 90, 3, 0, [(11, 0, 0, "", "")]), (5, .bipush (-10), 2, 0, []), (7, .iload_n 1, 1, 0, []), (8, .isub, 1, 0, []), (9, .ireturn, 1, 0, [])]
def tb_X11_failedLong : List (Nat × zO) := [(0, .aload_n 0, 1, 0, []), (1, .iload_n 1, 1, 0, []), (2, .putfield 90, 3, 0, [(11, 0, 0, "", "")]), (5, .invokestatic 94, 3, 0, [(0, 87, 2, "", "")]), (8, .lreturn, 1, 0, [])]
def tb_X11_noTale : List (Nat × zO) := [(0, .iload_n 1, 1, 0, []), (1, .i2l, 1, 0, []), (2, .lconst 0, 1, 0, []), (3, .aload_n 0, 1, 0, []), (4, .getfield 98, 3, 0, [(11, 2, 0, "", "")]), (7, .i2l, 1, 0, []), (8, .lconst 1, 1, 0, []), (9, .lsub, 1, 0, []), (10, .invokestatic 101, 3, 3, [(0, 86, 2, "", "")]), (13, .ifCond .ne 7, 3, 0, []), (16, .iconst 1, 1, 0, []), (17, .goto 4, 3, 0, []), (20, .iconst 0, 1, 0, []), (21, .ireturn, 1, 1, [])]
def tb_X11_codeAt : List (Nat × zO) := [(0, .aload_n 0, 1, 0, []), (1, .getfield 105, 3, 0, [(11, 10, 0, "", "")]), (4, .iload_n 2, 1, 0, []), (5, .if_icmp .ge 17, 3, 0, []), (8, .aload_n 0, 1, 0, []), (9, .getfield 82, 3, 2, [(11, 40, 0, "", "")]), (12, .iload_n 1, 1, 0, []), (13, .aload_n 0, 1, 0, []), (14, .getfield 105, 3, 0, [(11, 10, 0, "", "")]), (17, .iadd, 1, 0, []), (18, .iaload, 1, 0, []), (19, .goto 5, 3, 0, []), (22, .bipush (-9), 2, 0, []), (24, .ireturn, 1, 0, [])]
def tb_X11_figure : List (Nat × zO) := [(0, .aload_n 0, 1, 0, []), (1, .iload_n 1, 1, 0, []), (2, .iload_n 2, 1, 0, []), (3, .invokevirtual 108, 3, 2, [(11, 95, 0, "", "")]), (6, .bipush 48, 2, 0, []), (8, .isub, 1, 0, []), (9, .istore 5, 2, 0, []), (11, .iload 5, 2, 0, []), (13, .i2l, 1, 0, []), (14, .iload_n 3, 1, 0, []), (15, .i2l, 1, 0, []), (16, .iload 4, 2, 0, []), (18, .i2l, 1, 0, []), (19, .invokestatic 101, 3, 3, [(0, 86, 2, "", "")]), (22, .istore 6, 2, 0, []), (24, .aload_n 0, 1, 0, []), (25, .dup, 1, 0, []), (26, .getfield 105, 3, 0, [(11, 10, 0, "", "")]), (29, .iload 6, 2, 0, []), (31, .ifCond .eq 7, 3, 0, []), (34, .iconst 1, 1, 0, []), (35, .goto 4, 3, 0, []), (38, .iconst 0, 1, 0, []), (39, .iadd, 1, 0, []), (40, .putfield 105, 3, 0, [(11, 10, 0, "", "")]), (43, .iload 6, 2, 0, []), (45, .ifCond .eq 8, 3, 0, []), (48, .iload 5, 2, 0, []), (50, .goto 5, 3, 0, []), (53, .bipush (-9), 2, 0, []), (55, .ireturn, 1, 0, [])]
def tb_X11_readsTale_0 : List (Nat × zO) := [(0, .aload_n 0, 1, 0, []), (1, .getfield 112, 3, 0, [(11, 12, 0, "", "")]), (4, .bipush 8, 2, 0, []), (6, .if_icmp .eq 14, 3, 0, []), (9, .aload_n 0, 1, 0, []), (10, .iload_n 1, 1, 0, []), (11, .iload_n 2, 1, 0, []), (12, .invokevirtual 108, 3, 2, [(11, 95, 0, "", "")]), (15, .bipush 59, 2, 0, []), (17, .if_icmp .eq 5, 3, 0, []), (20, .iconst 0, 1, 0, []), (21, .ireturn, 1, 1, []), (22, .aload_n 0, 1, 0, []), (23, .dup, 1, 0, []), (24, .getfield 105, 3, 0, [(11, 10, 0, "", "")]), (27, .iconst 1, 1, 0, []), (28, .iadd, 1, 0, []), (29, .putfield 105, 3, 0, [(11, 10, 0, "", "")]), (32, .aload_n 0, 1, 0, []), (33, .iload_n 1, 1, 0, []), (34, .iload_n 2, 1, 0, []), (35, .invokevirtual 108, 3, 2, [(11, 95, 0, "", "")]), (38, .istore_n 3, 1, 0, []), (39, .iload_n 3, 1, 0, []), (40, .bipush 116, 2, 0, []), (42, .if_icmp .eq 17, 3, 0, []), (45, .iload_n 3, 1, 0, []), (46, .bipush 100, 2, 0, []), (48, .if_icmp .eq 11, 3, 0, []), (51, .iload_n 3, 1, 0, []), (52, .bipush 111, 2, 0, []), (54, .if_icmp .eq 5, 3, 0, []), (57, .iconst 0, 1, 0, []), (58, .ireturn, 1, 1, []), (59, .aload_n 0, 1, 0, []), (60, .dup, 1, 0, []), (61, .getfield 105, 3, 0, [(11, 10, 0, "", "")]), (64, .iconst 1, 1, 0, []), (65, .iadd, 1, 0, []), (66, .putfield 105, 3, 0, [(11, 10, 0, "", "")])]
def tb_X11_readsTale_1 : List (Nat × zO) := [(69, .aload_n 0, 1, 0, []), (70, .iload_n 1, 1, 0, []), (71, .iload_n 2, 1, 0, []), (72, .iconst 0, 1, 0, []), (73, .bipush 7, 2, 0, []), (75, .invokevirtual 115, 3, 4, [(11, 96, 0, "", "")]), (78, .istore 4, 2, 0, []), (80, .iload 4, 2, 0, []), (82, .ifCond .ge 8, 3, 0, []), (85, .bipush (-9), 2, 0, []), (87, .goto 12, 3, 0, []), (90, .aload_n 0, 1, 0, []), (91, .iload_n 1, 1, 0, []), (92, .iload_n 2, 1, 0, []), (93, .iconst 0, 1, 0, []), (94, .bipush 7, 2, 0, []), (96, .invokevirtual 115, 3, 4, [(11, 96, 0, "", "")]), (99, .istore 5, 2, 0, []), (101, .iload 5, 2, 0, []), (103, .ifCond .ge 8, 3, 0, []), (106, .bipush (-9), 2, 0, []), (108, .goto 12, 3, 0, []), (111, .aload_n 0, 1, 0, []), (112, .iload_n 1, 1, 0, []), (113, .iload_n 2, 1, 0, []), (114, .iconst 0, 1, 0, []), (115, .bipush 7, 2, 0, []), (117, .invokevirtual 115, 3, 4, [(11, 96, 0, "", "")]), (120, .istore 6, 2, 0, []), (122, .iload 6, 2, 0, []), (124, .ifCond .ge 8, 3, 0, []), (127, .bipush (-9), 2, 0, []), (129, .goto 11, 3, 0, []), (132, .aload_n 0, 1, 0, []), (133, .iload_n 1, 1, 0, []), (134, .iload_n 2, 1, 0, []), (135, .iconst 0, 1, 0, []), (136, .iconst 3, 1, 0, []), (137, .invokevirtual 115, 3, 4, [(11, 96, 0, "", "")]), (140, .istore 7, 2, 0, [])]
def tb_X11_readsTale_2 : List (Nat × zO) := [(142, .iload 7, 2, 0, []), (144, .ifCond .ge 5, 3, 0, []), (147, .iconst 0, 1, 0, []), (148, .ireturn, 1, 1, []), (149, .aload_n 0, 1, 0, []), (150, .getfield 25, 3, 2, [(11, 13, 0, "", "")]), (153, .aload_n 0, 1, 0, []), (154, .getfield 112, 3, 0, [(11, 12, 0, "", "")]), (157, .iload_n 3, 1, 0, []), (158, .bipush 116, 2, 0, []), (160, .if_icmp .ne 7, 3, 0, []), (163, .iconst 0, 1, 0, []), (164, .goto 14, 3, 0, []), (167, .iload_n 3, 1, 0, []), (168, .bipush 100, 2, 0, []), (170, .if_icmp .ne 7, 3, 0, []), (173, .iconst 1, 1, 0, []), (174, .goto 4, 3, 0, []), (177, .iconst 2, 1, 0, []), (178, .iastore, 1, 0, []), (179, .aload_n 0, 1, 0, []), (180, .getfield 28, 3, 2, [(11, 14, 0, "", "")]), (183, .aload_n 0, 1, 0, []), (184, .getfield 112, 3, 0, [(11, 12, 0, "", "")]), (187, .iload 4, 2, 0, []), (189, .iastore, 1, 0, []), (190, .aload_n 0, 1, 0, []), (191, .getfield 31, 3, 2, [(11, 15, 0, "", "")]), (194, .aload_n 0, 1, 0, []), (195, .getfield 112, 3, 0, [(11, 12, 0, "", "")]), (198, .iload 5, 2, 0, []), (200, .iastore, 1, 0, []), (201, .aload_n 0, 1, 0, []), (202, .getfield 34, 3, 2, [(11, 16, 0, "", "")]), (205, .aload_n 0, 1, 0, []), (206, .getfield 112, 3, 0, [(11, 12, 0, "", "")]), (209, .iload 6, 2, 0, []), (211, .iastore, 1, 0, []), (212, .aload_n 0, 1, 0, []), (213, .getfield 37, 3, 2, [(11, 17, 0, "", "")])]
def tb_X11_readsTale_3 : List (Nat × zO) := [(216, .aload_n 0, 1, 0, []), (217, .getfield 112, 3, 0, [(11, 12, 0, "", "")]), (220, .iload 7, 2, 0, []), (222, .iastore, 1, 0, []), (223, .aload_n 0, 1, 0, []), (224, .dup, 1, 0, []), (225, .getfield 112, 3, 0, [(11, 12, 0, "", "")]), (228, .iconst 1, 1, 0, []), (229, .iadd, 1, 0, []), (230, .putfield 112, 3, 0, [(11, 12, 0, "", "")]), (233, .iconst 1, 1, 0, []), (234, .ireturn, 1, 1, [])]
def tb_X11_readsTale : List (Nat × zO) := tb_X11_readsTale_0 ++ tb_X11_readsTale_1 ++ tb_X11_readsTale_2 ++ tb_X11_readsTale_3
def tb_X11_readsForest_0 : List (Nat × zO) := [(0, .aload_n 0, 1, 0, []), (1, .iconst 0, 1, 0, []), (2, .putfield 105, 3, 0, [(11, 10, 0, "", "")]), (5, .aload_n 0, 1, 0, []), (6, .iconst 0, 1, 0, []), (7, .putfield 112, 3, 0, [(11, 12, 0, "", "")]), (10, .aload_n 0, 1, 0, []), (11, .iload_n 1, 1, 0, []), (12, .iload_n 2, 1, 0, []), (13, .invokevirtual 108, 3, 2, [(11, 95, 0, "", "")]), (16, .bipush 114, 2, 0, []), (18, .if_icmp .ne 7, 3, 0, []), (21, .iconst 1, 1, 0, []), (22, .goto 4, 3, 0, []), (25, .iconst 0, 1, 0, []), (26, .istore_n 3, 1, 0, []), (27, .aload_n 0, 1, 0, []), (28, .dup, 1, 0, []), (29, .getfield 105, 3, 0, [(11, 10, 0, "", "")]), (32, .iload_n 3, 1, 0, []), (33, .ifCond .eq 7, 3, 0, []), (36, .iconst 1, 1, 0, []), (37, .goto 4, 3, 0, []), (40, .iconst 0, 1, 0, []), (41, .iadd, 1, 0, []), (42, .putfield 105, 3, 0, [(11, 10, 0, "", "")]), (45, .aload_n 0, 1, 0, []), (46, .iload_n 3, 1, 0, []), (47, .ifCond .eq 15, 3, 0, []), (50, .aload_n 0, 1, 0, []), (51, .iload_n 1, 1, 0, []), (52, .iload_n 2, 1, 0, []), (53, .iconst 1, 1, 0, []), (54, .bipush 9, 2, 0, []), (56, .invokevirtual 115, 3, 4, [(11, 96, 0, "", "")]), (59, .goto 5, 3, 0, []), (62, .bipush (-9), 2, 0, []), (64, .putfield 119, 3, 0, [(11, 11, 0, "", "")]), (67, .aload_n 0, 1, 0, []), (68, .getfield 119, 3, 0, [(11, 11, 0, "", "")])]
def tb_X11_readsForest_1 : List (Nat × zO) := [(71, .ifCond .le 7, 3, 0, []), (74, .iconst 1, 1, 0, []), (75, .goto 4, 3, 0, []), (78, .iconst 0, 1, 0, []), (79, .istore_n 3, 1, 0, []), (80, .iload_n 3, 1, 0, []), (81, .ifCond .eq 28, 3, 0, []), (84, .aload_n 0, 1, 0, []), (85, .getfield 112, 3, 0, [(11, 12, 0, "", "")]), (88, .ifCond .eq 11, 3, 0, []), (91, .aload_n 0, 1, 0, []), (92, .getfield 105, 3, 0, [(11, 10, 0, "", "")]), (95, .iload_n 2, 1, 0, []), (96, .if_icmp .ge 13, 3, 0, []), (99, .aload_n 0, 1, 0, []), (100, .iload_n 1, 1, 0, []), (101, .iload_n 2, 1, 0, []), (102, .invokevirtual 122, 3, 2, [(11, 97, 0, "", "")]), (105, .istore_n 3, 1, 0, []), (106, .goto (-26), 3, 0, []), (109, .iload_n 3, 1, 0, []), (110, .ireturn, 1, 1, [])]
def tb_X11_readsForest : List (Nat × zO) := tb_X11_readsForest_0 ++ tb_X11_readsForest_1
def tb_X11_cellsBarred_0 : List (Nat × zO) := [(0, .aload_n 0, 1, 0, []), (1, .getfield 76, 3, 2, [(11, 38, 0, "", "")]), (4, .iload_n 1, 1, 0, []), (5, .iaload, 1, 0, []), (6, .ifCond .lt 19, 3, 0, []), (9, .aload_n 0, 1, 0, []), (10, .getfield 79, 3, 2, [(11, 39, 0, "", "")]), (13, .iload_n 1, 1, 0, []), (14, .iaload, 1, 0, []), (15, .iload_n 2, 1, 0, []), (16, .if_icmp .eq 9, 3, 0, []), (19, .aload_n 0, 1, 0, []), (20, .iconst 2, 1, 0, []), (21, .invokevirtual 126, 3, 1, [(11, 92, 0, "", "")]), (24, .ireturn, 1, 0, []), (25, .aload_n 0, 1, 0, []), (26, .getfield 76, 3, 2, [(11, 38, 0, "", "")]), (29, .iload_n 1, 1, 0, []), (30, .iaload, 1, 0, []), (31, .ifCond .ge 9, 3, 0, []), (34, .aload_n 0, 1, 0, []), (35, .iconst 1, 1, 0, []), (36, .invokevirtual 126, 3, 1, [(11, 92, 0, "", "")]), (39, .ireturn, 1, 0, []), (40, .lload 4, 2, 0, []), (42, .lconst 0, 1, 0, []), (43, .lcmp, 1, 0, []), (44, .ifCond .ge 9, 3, 0, []), (47, .aload_n 0, 1, 0, []), (48, .iconst 4, 1, 0, []), (49, .invokevirtual 126, 3, 1, [(11, 92, 0, "", "")]), (52, .ireturn, 1, 0, []), (53, .iload_n 3, 1, 0, []), (54, .lload 4, 2, 0, []), (56, .aload_n 0, 1, 0, []), (57, .getfield 76, 3, 2, [(11, 38, 0, "", "")]), (60, .iload_n 1, 1, 0, []), (61, .iaload, 1, 0, []), (62, .invokestatic 130, 3, 3, [(0, 133, 2, "", "")]), (65, .ifCond .eq 11, 3, 0, [])]
def tb_X11_cellsBarred_1 : List (Nat × zO) := [(68, .aload_n 0, 1, 0, []), (69, .iconst 3, 1, 0, []), (70, .invokevirtual 126, 3, 1, [(11, 92, 0, "", "")]), (73, .goto 4, 3, 0, []), (76, .iconst 0, 1, 0, []), (77, .ireturn, 1, 0, [])]
def tb_X11_cellsBarred : List (Nat × zO) := tb_X11_cellsBarred_0 ++ tb_X11_cellsBarred_1
def tb_X11_forest_0 : List (Nat × zO) := [(0, .iload_n 1, 1, 0, []), (1, .invokestatic 134, 3, 1, [(0, 127, 2, "", "")]), (4, .ifCond .eq 9, 3, 0, []), (7, .aload_n 0, 1, 0, []), (8, .iconst (-1), 1, 0, []), (9, .invokevirtual 138, 3, 1, [(11, 91, 0, "", "")]), (12, .ireturn, 1, 0, []), (13, .iload_n 2, 1, 0, []), (14, .i2l, 1, 0, []), (15, .lconst 0, 1, 0, []), (16, .ldc2_w 141, 3, 2, []), (19, .invokestatic 101, 3, 3, [(0, 86, 2, "", "")]), (22, .ifCond .ne 10, 3, 0, []), (25, .aload_n 0, 1, 0, []), (26, .bipush (-2), 2, 0, []), (28, .invokevirtual 138, 3, 1, [(11, 91, 0, "", "")]), (31, .ireturn, 1, 0, []), (32, .aload_n 0, 1, 0, []), (33, .iload_n 1, 1, 0, []), (34, .iload_n 2, 1, 0, []), (35, .iload_n 3, 1, 0, []), (36, .iload 4, 2, 0, []), (38, .i2l, 1, 0, []), (39, .invokevirtual 143, 3, 4, [(11, 99, 0, "", "")]), (42, .istore 5, 2, 0, []), (44, .iload 5, 2, 0, []), (46, .ifCond .ge 6, 3, 0, []), (49, .iload 5, 2, 0, []), (51, .ireturn, 1, 0, []), (52, .aload_n 0, 1, 0, []), (53, .bipush 60, 2, 0, []), (55, .iload_n 1, 1, 0, []), (56, .imul, 1, 0, []), (57, .iload_n 3, 1, 0, []), (58, .iadd, 1, 0, []), (59, .iload 4, 2, 0, []), (61, .invokevirtual 147, 3, 2, [(11, 98, 0, "", "")]), (64, .ifCond .ne 15, 3, 0, []), (67, .aload_n 0, 1, 0, []), (68, .bipush (-100), 2, 0, [])]
def tb_X11_forest_1 : List (Nat × zO) := [(70, .aload_n 0, 1, 0, []), (71, .getfield 105, 3, 0, [(11, 10, 0, "", "")]), (74, .isub, 1, 0, []), (75, .invokevirtual 138, 3, 1, [(11, 91, 0, "", "")]), (78, .ireturn, 1, 0, []), (79, .aload_n 0, 1, 0, []), (80, .aload_n 0, 1, 0, []), (81, .getfield 119, 3, 0, [(11, 11, 0, "", "")]), (84, .putfield 150, 3, 0, [(11, 1, 0, "", "")]), (87, .aload_n 0, 1, 0, []), (88, .aload_n 0, 1, 0, []), (89, .getfield 112, 3, 0, [(11, 12, 0, "", "")]), (92, .putfield 98, 3, 0, [(11, 2, 0, "", "")]), (95, .iconst 0, 1, 0, []), (96, .istore 6, 2, 0, []), (98, .iload 6, 2, 0, []), (100, .aload_n 0, 1, 0, []), (101, .getfield 98, 3, 0, [(11, 2, 0, "", "")]), (104, .if_icmp .ge 79, 3, 0, []), (107, .aload_n 0, 1, 0, []), (108, .getfield 7, 3, 2, [(11, 3, 0, "", "")]), (111, .iload 6, 2, 0, []), (113, .aload_n 0, 1, 0, []), (114, .getfield 25, 3, 2, [(11, 13, 0, "", "")]), (117, .iload 6, 2, 0, []), (119, .iaload, 1, 0, []), (120, .iastore, 1, 0, []), (121, .aload_n 0, 1, 0, []), (122, .getfield 13, 3, 2, [(11, 4, 0, "", "")]), (125, .iload 6, 2, 0, []), (127, .aload_n 0, 1, 0, []), (128, .getfield 28, 3, 2, [(11, 14, 0, "", "")]), (131, .iload 6, 2, 0, []), (133, .iaload, 1, 0, []), (134, .iastore, 1, 0, []), (135, .aload_n 0, 1, 0, []), (136, .getfield 16, 3, 2, [(11, 5, 0, "", "")]), (139, .iload 6, 2, 0, []), (141, .aload_n 0, 1, 0, []), (142, .getfield 31, 3, 2, [(11, 15, 0, "", "")])]
def tb_X11_forest_2 : List (Nat × zO) := [(145, .iload 6, 2, 0, []), (147, .iaload, 1, 0, []), (148, .iastore, 1, 0, []), (149, .aload_n 0, 1, 0, []), (150, .getfield 19, 3, 2, [(11, 6, 0, "", "")]), (153, .iload 6, 2, 0, []), (155, .aload_n 0, 1, 0, []), (156, .getfield 34, 3, 2, [(11, 16, 0, "", "")]), (159, .iload 6, 2, 0, []), (161, .iaload, 1, 0, []), (162, .iastore, 1, 0, []), (163, .aload_n 0, 1, 0, []), (164, .getfield 22, 3, 2, [(11, 7, 0, "", "")]), (167, .iload 6, 2, 0, []), (169, .aload_n 0, 1, 0, []), (170, .getfield 37, 3, 2, [(11, 17, 0, "", "")]), (173, .iload 6, 2, 0, []), (175, .iaload, 1, 0, []), (176, .iastore, 1, 0, []), (177, .iinc 6 1, 3, 0, []), (180, .goto (-82), 3, 0, []), (183, .aload_n 0, 1, 0, []), (184, .iconst 0, 1, 0, []), (185, .putfield 153, 3, 0, [(11, 8, 0, "", "")]), (188, .aload_n 0, 1, 0, []), (189, .iconst 0, 1, 0, []), (190, .putfield 156, 3, 0, [(11, 9, 0, "", "")]), (193, .aload_n 0, 1, 0, []), (194, .iconst 0, 1, 0, []), (195, .putfield 159, 3, 0, [(11, 34, 0, "", "")]), (198, .aload_n 0, 1, 0, []), (199, .aload_n 0, 1, 0, []), (200, .getfield 98, 3, 0, [(11, 2, 0, "", "")]), (203, .invokevirtual 138, 3, 1, [(11, 91, 0, "", "")]), (206, .ireturn, 1, 0, [])]
def tb_X11_forest : List (Nat × zO) := tb_X11_forest_0 ++ tb_X11_forest_1 ++ tb_X11_forest_2
def tb_X11_hasAnswer_0 : List (Nat × zO) := [(0, .iload_n 2, 1, 0, []), (1, .aload_n 0, 1, 0, []), (2, .getfield 13, 3, 2, [(11, 4, 0, "", "")]), (5, .iload_n 1, 1, 0, []), (6, .iaload, 1, 0, []), (7, .invokestatic 162, 3, 2, [(0, 88, 2, "", "")]), (10, .istore 4, 2, 0, []), (12, .iload_n 2, 1, 0, []), (13, .aload_n 0, 1, 0, []), (14, .getfield 16, 3, 2, [(11, 5, 0, "", "")]), (17, .iload_n 1, 1, 0, []), (18, .iaload, 1, 0, []), (19, .invokestatic 162, 3, 2, [(0, 88, 2, "", "")]), (22, .istore 5, 2, 0, []), (24, .aload_n 0, 1, 0, []), (25, .getfield 7, 3, 2, [(11, 3, 0, "", "")]), (28, .iload_n 1, 1, 0, []), (29, .iaload, 1, 0, []), (30, .ifCond .ne 21, 3, 0, []), (33, .iload 4, 2, 0, []), (35, .ifCond .ne 8, 3, 0, []), (38, .iload 5, 2, 0, []), (40, .ifCond .eq 7, 3, 0, []), (43, .iconst 1, 1, 0, []), (44, .goto 40, 3, 0, []), (47, .iconst 0, 1, 0, []), (48, .goto 36, 3, 0, []), (51, .iload 4, 2, 0, []), (53, .ifCond .eq 8, 3, 0, []), (56, .iload 5, 2, 0, []), (58, .ifCond .ne 21, 3, 0, []), (61, .aload_n 0, 1, 0, []), (62, .getfield 7, 3, 2, [(11, 3, 0, "", "")]), (65, .iload_n 1, 1, 0, []), (66, .iaload, 1, 0, []), (67, .iconst 2, 1, 0, []), (68, .if_icmp .ne 15, 3, 0, []), (71, .iload_n 3, 1, 0, []), (72, .iload_n 1, 1, 0, []), (73, .invokestatic 162, 3, 2, [(0, 88, 2, "", "")])]
def tb_X11_hasAnswer_1 : List (Nat × zO) := [(76, .ifCond .eq 7, 3, 0, []), (79, .iconst 1, 1, 0, []), (80, .goto 4, 3, 0, []), (83, .iconst 0, 1, 0, []), (84, .ireturn, 1, 1, [])]
def tb_X11_hasAnswer : List (Nat × zO) := tb_X11_hasAnswer_0 ++ tb_X11_hasAnswer_1
def tb_X11_ofTale_0 : List (Nat × zO) := [(0, .aload_n 0, 1, 0, []), (1, .iload_n 1, 1, 0, []), (2, .invokevirtual 165, 3, 1, [(11, 94, 0, "", "")]), (5, .ifCond .eq 5, 3, 0, []), (8, .iconst (-1), 1, 0, []), (9, .ireturn, 1, 0, []), (10, .iload_n 2, 1, 0, []), (11, .tableswitch 91 0 5 #[37, 44, 51, 58, 65, 72], 37, 0, []), (48, .aload_n 0, 1, 0, []), (49, .getfield 7, 3, 2, [(11, 3, 0, "", "")]), (52, .iload_n 1, 1, 0, []), (53, .iaload, 1, 0, []), (54, .ireturn, 1, 0, []), (55, .aload_n 0, 1, 0, []), (56, .getfield 13, 3, 2, [(11, 4, 0, "", "")]), (59, .iload_n 1, 1, 0, []), (60, .iaload, 1, 0, []), (61, .ireturn, 1, 0, []), (62, .aload_n 0, 1, 0, []), (63, .getfield 16, 3, 2, [(11, 5, 0, "", "")]), (66, .iload_n 1, 1, 0, []), (67, .iaload, 1, 0, []), (68, .ireturn, 1, 0, []), (69, .aload_n 0, 1, 0, []), (70, .getfield 19, 3, 2, [(11, 6, 0, "", "")]), (73, .iload_n 1, 1, 0, []), (74, .iaload, 1, 0, []), (75, .ireturn, 1, 0, []), (76, .aload_n 0, 1, 0, []), (77, .getfield 22, 3, 2, [(11, 7, 0, "", "")]), (80, .iload_n 1, 1, 0, []), (81, .iaload, 1, 0, []), (82, .ireturn, 1, 0, []), (83, .aload_n 0, 1, 0, []), (84, .iload_n 1, 1, 0, []), (85, .aload_n 0, 1, 0, []), (86, .getfield 153, 3, 0, [(11, 8, 0, "", "")]), (89, .iconst 0, 1, 0, []), (90, .invokevirtual 168, 3, 3, [(11, 101, 0, "", "")]), (93, .ifCond .eq 7, 3, 0, [])]
def tb_X11_ofTale_1 : List (Nat × zO) := [(96, .iconst 1, 1, 0, []), (97, .goto 4, 3, 0, []), (100, .iconst 0, 1, 0, []), (101, .ireturn, 1, 0, []), (102, .bipush (-2), 2, 0, []), (104, .ireturn, 1, 0, [])]
def tb_X11_ofTale : List (Nat × zO) := tb_X11_ofTale_0 ++ tb_X11_ofTale_1
def tb_X11_know_0 : List (Nat × zO) := [(0, .iload_n 1, 1, 0, []), (1, .i2l, 1, 0, []), (2, .lconst 0, 1, 0, []), (3, .ldc2_w 172, 3, 7, []), (6, .invokestatic 101, 3, 3, [(0, 86, 2, "", "")]), (9, .ifCond .ne 5, 3, 0, []), (12, .iconst (-1), 1, 0, []), (13, .ireturn, 1, 0, []), (14, .aload_n 0, 1, 0, []), (15, .getfield 98, 3, 0, [(11, 2, 0, "", "")]), (18, .ifCond .ne 6, 3, 0, []), (21, .bipush (-3), 2, 0, []), (23, .ireturn, 1, 0, []), (24, .aload_n 0, 1, 0, []), (25, .getfield 153, 3, 0, [(11, 8, 0, "", "")]), (28, .iload_n 1, 1, 0, []), (29, .invokestatic 162, 3, 2, [(0, 88, 2, "", "")]), (32, .istore_n 3, 1, 0, []), (33, .aload_n 0, 1, 0, []), (34, .iload_n 2, 1, 0, []), (35, .ifCond .eq 14, 3, 0, []), (38, .aload_n 0, 1, 0, []), (39, .getfield 153, 3, 0, [(11, 8, 0, "", "")]), (42, .iconst 1, 1, 0, []), (43, .iload_n 1, 1, 0, []), (44, .ishl, 1, 0, []), (45, .ior, 1, 0, []), (46, .goto 13, 3, 0, []), (49, .aload_n 0, 1, 0, []), (50, .getfield 153, 3, 0, [(11, 8, 0, "", "")]), (53, .iconst 1, 1, 0, []), (54, .iload_n 1, 1, 0, []), (55, .ishl, 1, 0, []), (56, .iconst (-1), 1, 0, []), (57, .ixor, 1, 0, []), (58, .iand, 1, 0, []), (59, .putfield 153, 3, 0, [(11, 8, 0, "", "")]), (62, .iload_n 3, 1, 0, []), (63, .iload_n 2, 1, 0, []), (64, .if_icmp .ne 7, 3, 0, [])]
def tb_X11_know_1 : List (Nat × zO) := [(67, .iconst 0, 1, 0, []), (68, .goto 4, 3, 0, []), (71, .iconst 1, 1, 0, []), (72, .ireturn, 1, 0, [])]
def tb_X11_know : List (Nat × zO) := tb_X11_know_0 ++ tb_X11_know_1
def tb_X11_believe_0 : List (Nat × zO) := [(0, .iload_n 1, 1, 0, []), (1, .i2l, 1, 0, []), (2, .lconst 0, 1, 0, []), (3, .ldc2_w 172, 3, 7, []), (6, .invokestatic 101, 3, 3, [(0, 86, 2, "", "")]), (9, .ifCond .ne 5, 3, 0, []), (12, .iconst (-1), 1, 0, []), (13, .ireturn, 1, 0, []), (14, .aload_n 0, 1, 0, []), (15, .getfield 98, 3, 0, [(11, 2, 0, "", "")]), (18, .ifCond .ne 6, 3, 0, []), (21, .bipush (-3), 2, 0, []), (23, .ireturn, 1, 0, []), (24, .aload_n 0, 1, 0, []), (25, .getfield 156, 3, 0, [(11, 9, 0, "", "")]), (28, .iload_n 1, 1, 0, []), (29, .invokestatic 162, 3, 2, [(0, 88, 2, "", "")]), (32, .istore_n 3, 1, 0, []), (33, .aload_n 0, 1, 0, []), (34, .iload_n 2, 1, 0, []), (35, .ifCond .eq 14, 3, 0, []), (38, .aload_n 0, 1, 0, []), (39, .getfield 156, 3, 0, [(11, 9, 0, "", "")]), (42, .iconst 1, 1, 0, []), (43, .iload_n 1, 1, 0, []), (44, .ishl, 1, 0, []), (45, .ior, 1, 0, []), (46, .goto 13, 3, 0, []), (49, .aload_n 0, 1, 0, []), (50, .getfield 156, 3, 0, [(11, 9, 0, "", "")]), (53, .iconst 1, 1, 0, []), (54, .iload_n 1, 1, 0, []), (55, .ishl, 1, 0, []), (56, .iconst (-1), 1, 0, []), (57, .ixor, 1, 0, []), (58, .iand, 1, 0, []), (59, .putfield 156, 3, 0, [(11, 9, 0, "", "")]), (62, .iload_n 3, 1, 0, []), (63, .iload_n 2, 1, 0, []), (64, .if_icmp .ne 7, 3, 0, [])]
def tb_X11_believe_1 : List (Nat × zO) := [(67, .iconst 0, 1, 0, []), (68, .goto 4, 3, 0, []), (71, .iconst 1, 1, 0, []), (72, .ireturn, 1, 0, [])]
def tb_X11_believe : List (Nat × zO) := tb_X11_believe_0 ++ tb_X11_believe_1
def tb_X11_beginNight : List (Nat × zO) := [(0, .aload_n 0, 1, 0, []), (1, .iconst 0, 1, 0, []), (2, .putfield 174, 3, 0, [(11, 18, 0, "", "")]), (5, .aload_n 0, 1, 0, []), (6, .iload_n 1, 1, 0, []), (7, .putfield 177, 3, 0, [(11, 19, 0, "", "")]), (10, .aload_n 0, 1, 0, []), (11, .iconst 0, 1, 0, []), (12, .putfield 180, 3, 0, [(11, 20, 0, "", "")]), (15, .aload_n 0, 1, 0, []), (16, .iconst 0, 1, 0, []), (17, .putfield 183, 3, 0, [(11, 21, 0, "", "")]), (20, .aload_n 0, 1, 0, []), (21, .iconst 0, 1, 0, []), (22, .putfield 186, 3, 0, [(11, 22, 0, "", "")]), (25, .aload_n 0, 1, 0, []), (26, .iconst 0, 1, 0, []), (27, .putfield 189, 3, 1, [(11, 23, 0, "", "")]), (30, .return_, 1, 0, [])]
def tb_X11_goSteps : List (Nat × zO) := [(0, .aload_n 0, 1, 0, []), (1, .dup, 1, 0, []), (2, .getfield 174, 3, 0, [(11, 18, 0, "", "")]), (5, .iload_n 1, 1, 0, []), (6, .iadd, 1, 0, []), (7, .putfield 174, 3, 0, [(11, 18, 0, "", "")]), (10, .aload_n 0, 1, 0, []), (11, .aload_n 0, 1, 0, []), (12, .getfield 174, 3, 0, [(11, 18, 0, "", "")]), (15, .aload_n 0, 1, 0, []), (16, .getfield 150, 3, 0, [(11, 1, 0, "", "")]), (19, .if_icmp .lt 7, 3, 0, []), (22, .iconst 1, 1, 0, []), (23, .goto 4, 3, 0, []), (26, .iconst 0, 1, 0, []), (27, .putfield 189, 3, 1, [(11, 23, 0, "", "")]), (30, .aload_n 0, 1, 0, []), (31, .aload_n 0, 1, 0, []), (32, .getfield 189, 3, 0, [(11, 23, 0, "", "")]), (35, .ifCond .eq 10, 3, 0, []), (38, .aload_n 0, 1, 0, []), (39, .getfield 150, 3, 0, [(11, 1, 0, "", "")]), (42, .goto 7, 3, 0, []), (45, .aload_n 0, 1, 0, []), (46, .getfield 174, 3, 0, [(11, 18, 0, "", "")]), (49, .putfield 174, 3, 0, [(11, 18, 0, "", "")]), (52, .return_, 1, 0, [])]
def tb_X11_goTale_0 : List (Nat × zO) := [(0, .aload_n 0, 1, 0, []), (1, .aload_n 0, 1, 0, []), (2, .getfield 22, 3, 2, [(11, 7, 0, "", "")]), (5, .iload_n 1, 1, 0, []), (6, .iaload, 1, 0, []), (7, .invokevirtual 193, 3, 1, [(11, 106, 0, "", "")]), (10, .aload_n 0, 1, 0, []), (11, .getfield 189, 3, 0, [(11, 23, 0, "", "")]), (14, .ifCond .eq 5, 3, 0, []), (17, .iconst 0, 1, 0, []), (18, .ireturn, 1, 1, []), (19, .aload_n 0, 1, 0, []), (20, .iload_n 1, 1, 0, []), (21, .aload_n 0, 1, 0, []), (22, .getfield 177, 3, 0, [(11, 19, 0, "", "")]), (25, .aload_n 0, 1, 0, []), (26, .getfield 180, 3, 0, [(11, 20, 0, "", "")]), (29, .invokevirtual 168, 3, 3, [(11, 101, 0, "", "")]), (32, .ifCond .eq 21, 3, 0, []), (35, .aload_n 0, 1, 0, []), (36, .iconst 0, 1, 0, []), (37, .putfield 174, 3, 0, [(11, 18, 0, "", "")]), (40, .aload_n 0, 1, 0, []), (41, .dup, 1, 0, []), (42, .getfield 186, 3, 0, [(11, 22, 0, "", "")]), (45, .iconst 1, 1, 0, []), (46, .iadd, 1, 0, []), (47, .putfield 186, 3, 0, [(11, 22, 0, "", "")]), (50, .goto 40, 3, 0, []), (53, .aload_n 0, 1, 0, []), (54, .getfield 156, 3, 0, [(11, 9, 0, "", "")]), (57, .aload_n 0, 1, 0, []), (58, .getfield 13, 3, 2, [(11, 4, 0, "", "")]), (61, .iload_n 1, 1, 0, []), (62, .iaload, 1, 0, []), (63, .invokestatic 162, 3, 2, [(0, 88, 2, "", "")]), (66, .ifCond .ne 24, 3, 0, []), (69, .aload_n 0, 1, 0, []), (70, .getfield 156, 3, 0, [(11, 9, 0, "", "")]), (73, .aload_n 0, 1, 0, [])]
def tb_X11_goTale_1 : List (Nat × zO) := [(74, .getfield 16, 3, 2, [(11, 5, 0, "", "")]), (77, .iload_n 1, 1, 0, []), (78, .iaload, 1, 0, []), (79, .invokestatic 162, 3, 2, [(0, 88, 2, "", "")]), (82, .ifCond .ne 8, 3, 0, []), (85, .aload_n 0, 1, 0, []), (86, .iconst 1, 1, 0, []), (87, .invokevirtual 193, 3, 1, [(11, 106, 0, "", "")]), (90, .iconst 1, 1, 0, []), (91, .ireturn, 1, 1, [])]
def tb_X11_goTale : List (Nat × zO) := tb_X11_goTale_0 ++ tb_X11_goTale_1
def tb_X11_goHeard : List (Nat × zO) := [(0, .aload_n 0, 1, 0, []), (1, .getfield 189, 3, 0, [(11, 23, 0, "", "")]), (4, .ifCond .ne 50, 3, 0, []), (7, .aload_n 0, 1, 0, []), (8, .iload_n 1, 1, 0, []), (9, .invokevirtual 197, 3, 1, [(11, 107, 0, "", "")]), (12, .ifCond .eq 42, 3, 0, []), (15, .aload_n 0, 1, 0, []), (16, .dup, 1, 0, []), (17, .getfield 177, 3, 0, [(11, 19, 0, "", "")]), (20, .iconst 1, 1, 0, []), (21, .aload_n 0, 1, 0, []), (22, .getfield 19, 3, 2, [(11, 6, 0, "", "")]), (25, .iload_n 1, 1, 0, []), (26, .iaload, 1, 0, []), (27, .ishl, 1, 0, []), (28, .ior, 1, 0, []), (29, .putfield 177, 3, 0, [(11, 19, 0, "", "")]), (32, .aload_n 0, 1, 0, []), (33, .dup, 1, 0, []), (34, .getfield 180, 3, 0, [(11, 20, 0, "", "")]), (37, .iconst 1, 1, 0, []), (38, .iload_n 1, 1, 0, []), (39, .ishl, 1, 0, []), (40, .ior, 1, 0, []), (41, .putfield 180, 3, 0, [(11, 20, 0, "", "")]), (44, .aload_n 0, 1, 0, []), (45, .dup, 1, 0, []), (46, .getfield 183, 3, 0, [(11, 21, 0, "", "")]), (49, .iconst 1, 1, 0, []), (50, .iadd, 1, 0, []), (51, .putfield 183, 3, 0, [(11, 21, 0, "", "")]), (54, .return_, 1, 0, [])]
def tb_X11_goOrder : List (Nat × zO) := [(0, .aload_n 0, 1, 0, []), (1, .iload_n 3, 1, 0, []), (2, .invokevirtual 200, 3, 1, [(11, 105, 0, "", "")]), (5, .iconst 0, 1, 0, []), (6, .istore 4, 2, 0, []), (8, .iload 4, 2, 0, []), (10, .iload_n 2, 1, 0, []), (11, .if_icmp .ge 22, 3, 0, []), (14, .aload_n 0, 1, 0, []), (15, .aload_n 0, 1, 0, []), (16, .getfield 82, 3, 2, [(11, 40, 0, "", "")]), (19, .iload_n 1, 1, 0, []), (20, .iload 4, 2, 0, []), (22, .iadd, 1, 0, []), (23, .iaload, 1, 0, []), (24, .invokevirtual 203, 3, 1, [(11, 108, 0, "", "")]), (27, .iinc 4 1, 3, 0, []), (30, .goto (-22), 3, 0, []), (33, .return_, 1, 0, [])]
def tb_X11_orderBarred_0 : List (Nat × zO) := [(0, .aload_n 0, 1, 0, []), (1, .getfield 98, 3, 0, [(11, 2, 0, "", "")]), (4, .ifCond .ne 10, 3, 0, []), (7, .aload_n 0, 1, 0, []), (8, .bipush (-3), 2, 0, []), (10, .invokevirtual 138, 3, 1, [(11, 91, 0, "", "")]), (13, .ireturn, 1, 0, []), (14, .aload_n 0, 1, 0, []), (15, .iload_n 1, 1, 0, []), (16, .iload_n 2, 1, 0, []), (17, .iload_n 3, 1, 0, []), (18, .iload 4, 2, 0, []), (20, .i2l, 1, 0, []), (21, .invokevirtual 143, 3, 4, [(11, 99, 0, "", "")]), (24, .istore 5, 2, 0, []), (26, .iload 5, 2, 0, []), (28, .ifCond .ge 6, 3, 0, []), (31, .iload 5, 2, 0, []), (33, .ireturn, 1, 0, []), (34, .iload 4, 2, 0, []), (36, .bipush 20, 2, 0, []), (38, .if_icmp .le 10, 3, 0, []), (41, .aload_n 0, 1, 0, []), (42, .bipush (-2), 2, 0, []), (44, .invokevirtual 138, 3, 1, [(11, 91, 0, "", "")]), (47, .ireturn, 1, 0, []), (48, .iconst 0, 1, 0, []), (49, .istore 6, 2, 0, []), (51, .iload 6, 2, 0, []), (53, .iload 4, 2, 0, []), (55, .if_icmp .ge 36, 3, 0, []), (58, .aload_n 0, 1, 0, []), (59, .aload_n 0, 1, 0, []), (60, .getfield 82, 3, 2, [(11, 40, 0, "", "")]), (63, .bipush 60, 2, 0, []), (65, .iload_n 1, 1, 0, []), (66, .imul, 1, 0, []), (67, .iload_n 3, 1, 0, []), (68, .iadd, 1, 0, []), (69, .iload 6, 2, 0, [])]
def tb_X11_orderBarred_1 : List (Nat × zO) := [(71, .iadd, 1, 0, []), (72, .iaload, 1, 0, []), (73, .invokevirtual 165, 3, 1, [(11, 94, 0, "", "")]), (76, .ifCond .eq 9, 3, 0, []), (79, .aload_n 0, 1, 0, []), (80, .iconst (-1), 1, 0, []), (81, .invokevirtual 138, 3, 1, [(11, 91, 0, "", "")]), (84, .ireturn, 1, 0, []), (85, .iinc 6 1, 3, 0, []), (88, .goto (-37), 3, 0, []), (91, .aload_n 0, 1, 0, []), (92, .iconst 0, 1, 0, []), (93, .invokevirtual 138, 3, 1, [(11, 91, 0, "", "")]), (96, .ireturn, 1, 0, [])]
def tb_X11_orderBarred : List (Nat × zO) := tb_X11_orderBarred_0 ++ tb_X11_orderBarred_1
def tb_X11_night_0 : List (Nat × zO) := [(0, .iload_n 1, 1, 0, []), (1, .invokestatic 134, 3, 1, [(0, 127, 2, "", "")]), (4, .ifCond .eq 9, 3, 0, []), (7, .aload_n 0, 1, 0, []), (8, .iconst (-1), 1, 0, []), (9, .invokevirtual 138, 3, 1, [(11, 91, 0, "", "")]), (12, .ireturn, 1, 0, []), (13, .iload_n 2, 1, 0, []), (14, .i2l, 1, 0, []), (15, .lconst 0, 1, 0, []), (16, .ldc2_w 141, 3, 2, []), (19, .invokestatic 101, 3, 3, [(0, 86, 2, "", "")]), (22, .ifCond .eq 16, 3, 0, []), (25, .iload 5, 2, 0, []), (27, .i2l, 1, 0, []), (28, .lconst 0, 1, 0, []), (29, .ldc2_w 206, 3, 3, []), (32, .invokestatic 101, 3, 3, [(0, 86, 2, "", "")]), (35, .ifCond .ne 10, 3, 0, []), (38, .aload_n 0, 1, 0, []), (39, .bipush (-2), 2, 0, []), (41, .invokevirtual 138, 3, 1, [(11, 91, 0, "", "")]), (44, .ireturn, 1, 0, []), (45, .aload_n 0, 1, 0, []), (46, .iload_n 1, 1, 0, []), (47, .iload_n 2, 1, 0, []), (48, .iload_n 3, 1, 0, []), (49, .iload 4, 2, 0, []), (51, .invokevirtual 208, 3, 4, [(11, 110, 0, "", "")]), (54, .istore 6, 2, 0, []), (56, .iload 6, 2, 0, []), (58, .ifCond .ge 6, 3, 0, []), (61, .iload 6, 2, 0, []), (63, .ireturn, 1, 0, []), (64, .aload_n 0, 1, 0, []), (65, .bipush 60, 2, 0, []), (67, .iload_n 1, 1, 0, []), (68, .imul, 1, 0, []), (69, .iload_n 3, 1, 0, []), (70, .iadd, 1, 0, [])]
def tb_X11_night_1 : List (Nat × zO) := [(71, .iload 4, 2, 0, []), (73, .aload_n 0, 1, 0, []), (74, .getfield 153, 3, 0, [(11, 8, 0, "", "")]), (77, .invokevirtual 211, 3, 3, [(11, 109, 0, "", "")]), (80, .iload 5, 2, 0, []), (82, .ifCond .ne 10, 3, 0, []), (85, .aload_n 0, 1, 0, []), (86, .getfield 174, 3, 0, [(11, 18, 0, "", "")]), (89, .goto 33, 3, 0, []), (92, .iload 5, 2, 0, []), (94, .iconst 1, 1, 0, []), (95, .if_icmp .ne 10, 3, 0, []), (98, .aload_n 0, 1, 0, []), (99, .getfield 186, 3, 0, [(11, 22, 0, "", "")]), (102, .goto 20, 3, 0, []), (105, .iload 5, 2, 0, []), (107, .iconst 2, 1, 0, []), (108, .if_icmp .ne 10, 3, 0, []), (111, .aload_n 0, 1, 0, []), (112, .getfield 183, 3, 0, [(11, 21, 0, "", "")]), (115, .goto 7, 3, 0, []), (118, .aload_n 0, 1, 0, []), (119, .getfield 177, 3, 0, [(11, 19, 0, "", "")]), (122, .ireturn, 1, 0, [])]
def tb_X11_night : List (Nat × zO) := tb_X11_night_0 ++ tb_X11_night_1
def tb_X11_comes_0 : List (Nat × zO) := [(0, .iload_n 1, 1, 0, []), (1, .invokestatic 134, 3, 1, [(0, 127, 2, "", "")]), (4, .ifCond .eq 9, 3, 0, []), (7, .aload_n 0, 1, 0, []), (8, .iconst (-1), 1, 0, []), (9, .invokevirtual 138, 3, 1, [(11, 91, 0, "", "")]), (12, .ireturn, 1, 0, []), (13, .iload_n 2, 1, 0, []), (14, .i2l, 1, 0, []), (15, .lconst 0, 1, 0, []), (16, .ldc2_w 141, 3, 2, []), (19, .invokestatic 101, 3, 3, [(0, 86, 2, "", "")]), (22, .ifCond .ne 10, 3, 0, []), (25, .aload_n 0, 1, 0, []), (26, .bipush (-2), 2, 0, []), (28, .invokevirtual 138, 3, 1, [(11, 91, 0, "", "")]), (31, .ireturn, 1, 0, []), (32, .aload_n 0, 1, 0, []), (33, .iload_n 1, 1, 0, []), (34, .iload_n 2, 1, 0, []), (35, .iload_n 3, 1, 0, []), (36, .iload 4, 2, 0, []), (38, .invokevirtual 208, 3, 4, [(11, 110, 0, "", "")]), (41, .istore 5, 2, 0, []), (43, .iload 5, 2, 0, []), (45, .ifCond .ge 6, 3, 0, []), (48, .iload 5, 2, 0, []), (50, .ireturn, 1, 0, []), (51, .aload_n 0, 1, 0, []), (52, .bipush 60, 2, 0, []), (54, .iload_n 1, 1, 0, []), (55, .imul, 1, 0, []), (56, .iload_n 3, 1, 0, []), (57, .iadd, 1, 0, []), (58, .iload 4, 2, 0, []), (60, .aload_n 0, 1, 0, []), (61, .getfield 153, 3, 0, [(11, 8, 0, "", "")]), (64, .invokevirtual 211, 3, 3, [(11, 109, 0, "", "")]), (67, .aload_n 0, 1, 0, []), (68, .getfield 189, 3, 0, [(11, 23, 0, "", "")])]
def tb_X11_comes_1 : List (Nat × zO) := [(71, .ifCond .eq 7, 3, 0, []), (74, .iconst 1, 1, 0, []), (75, .goto 4, 3, 0, []), (78, .iconst 0, 1, 0, []), (79, .ireturn, 1, 0, [])]
def tb_X11_comes : List (Nat × zO) := tb_X11_comes_0 ++ tb_X11_comes_1
def tb_X11_isUsed : List (Nat × zO) := [(0, .iconst 0, 1, 0, []), (1, .istore_n 3, 1, 0, []), (2, .iconst 0, 1, 0, []), (3, .istore 4, 2, 0, []), (5, .iload 4, 2, 0, []), (7, .iload_n 1, 1, 0, []), (8, .if_icmp .ge 30, 3, 0, []), (11, .iload_n 3, 1, 0, []), (12, .ifCond .ne 14, 3, 0, []), (15, .aload_n 0, 1, 0, []), (16, .getfield 40, 3, 2, [(11, 24, 0, "", "")]), (19, .iload 4, 2, 0, []), (21, .iaload, 1, 0, []), (22, .iload_n 2, 1, 0, []), (23, .if_icmp .ne 7, 3, 0, []), (26, .iconst 1, 1, 0, []), (27, .goto 4, 3, 0, []), (30, .iconst 0, 1, 0, []), (31, .istore_n 3, 1, 0, []), (32, .iinc 4 1, 3, 0, []), (35, .goto (-30), 3, 0, []), (38, .iload_n 3, 1, 0, []), (39, .ireturn, 1, 1, [])]
def tb_X11_lookAtRow_0 : List (Nat × zO) := [(0, .aload_n 0, 1, 0, []), (1, .aload_n 0, 1, 0, []), (2, .getfield 153, 3, 0, [(11, 8, 0, "", "")]), (5, .invokevirtual 200, 3, 1, [(11, 105, 0, "", "")]), (8, .iconst 0, 1, 0, []), (9, .istore_n 2, 1, 0, []), (10, .iload_n 2, 1, 0, []), (11, .iload_n 1, 1, 0, []), (12, .if_icmp .ge 19, 3, 0, []), (15, .aload_n 0, 1, 0, []), (16, .aload_n 0, 1, 0, []), (17, .getfield 40, 3, 2, [(11, 24, 0, "", "")]), (20, .iload_n 2, 1, 0, []), (21, .iaload, 1, 0, []), (22, .invokevirtual 203, 3, 1, [(11, 108, 0, "", "")]), (25, .iinc 2 1, 3, 0, []), (28, .goto (-18), 3, 0, []), (31, .aload_n 0, 1, 0, []), (32, .getfield 189, 3, 0, [(11, 23, 0, "", "")]), (35, .ifCond .ne 47, 3, 0, []), (38, .aload_n 0, 1, 0, []), (39, .getfield 186, 3, 0, [(11, 22, 0, "", "")]), (42, .aload_n 0, 1, 0, []), (43, .getfield 215, 3, 0, [(11, 26, 0, "", "")]), (46, .if_icmp .le 36, 3, 0, []), (49, .aload_n 0, 1, 0, []), (50, .aload_n 0, 1, 0, []), (51, .getfield 186, 3, 0, [(11, 22, 0, "", "")]), (54, .putfield 215, 3, 0, [(11, 26, 0, "", "")]), (57, .iconst 0, 1, 0, []), (58, .istore_n 2, 1, 0, []), (59, .iload_n 2, 1, 0, []), (60, .iload_n 1, 1, 0, []), (61, .if_icmp .ge 21, 3, 0, []), (64, .aload_n 0, 1, 0, []), (65, .getfield 43, 3, 2, [(11, 25, 0, "", "")]), (68, .iload_n 2, 1, 0, []), (69, .aload_n 0, 1, 0, []), (70, .getfield 40, 3, 2, [(11, 24, 0, "", "")]), (73, .iload_n 2, 1, 0, [])]
def tb_X11_lookAtRow_1 : List (Nat × zO) := [(74, .iaload, 1, 0, []), (75, .iastore, 1, 0, []), (76, .iinc 2 1, 3, 0, []), (79, .goto (-20), 3, 0, []), (82, .return_, 1, 0, [])]
def tb_X11_lookAtRow : List (Nat × zO) := tb_X11_lookAtRow_0 ++ tb_X11_lookAtRow_1
def tb_X11_seekNever_0 : List (Nat × zO) := [(0, .aload_n 0, 1, 0, []), (1, .iconst (-1), 1, 0, []), (2, .putfield 215, 3, 0, [(11, 26, 0, "", "")]), (5, .iconst 0, 1, 0, []), (6, .istore_n 2, 1, 0, []), (7, .aload_n 0, 1, 0, []), (8, .getfield 40, 3, 2, [(11, 24, 0, "", "")]), (11, .iconst 0, 1, 0, []), (12, .iconst (-1), 1, 0, []), (13, .iastore, 1, 0, []), (14, .iload_n 2, 1, 0, []), (15, .ifCond .lt 74, 3, 0, []), (18, .aload_n 0, 1, 0, []), (19, .getfield 40, 3, 2, [(11, 24, 0, "", "")]), (22, .iload_n 2, 1, 0, []), (23, .dup2, 1, 0, []), (24, .iaload, 1, 0, []), (25, .iconst 1, 1, 0, []), (26, .iadd, 1, 0, []), (27, .iastore, 1, 0, []), (28, .aload_n 0, 1, 0, []), (29, .getfield 40, 3, 2, [(11, 24, 0, "", "")]), (32, .iload_n 2, 1, 0, []), (33, .iaload, 1, 0, []), (34, .aload_n 0, 1, 0, []), (35, .getfield 98, 3, 0, [(11, 2, 0, "", "")]), (38, .if_icmp .ne 9, 3, 0, []), (41, .iinc 2 (-1), 3, 0, []), (44, .goto (-30), 3, 0, []), (47, .aload_n 0, 1, 0, []), (48, .iload_n 2, 1, 0, []), (49, .aload_n 0, 1, 0, []), (50, .getfield 40, 3, 2, [(11, 24, 0, "", "")]), (53, .iload_n 2, 1, 0, []), (54, .iaload, 1, 0, []), (55, .invokevirtual 218, 3, 2, [(11, 113, 0, "", "")]), (58, .ifCond .ne (-44), 3, 0, []), (61, .iload_n 2, 1, 0, []), (62, .iload_n 1, 1, 0, []), (63, .iconst 1, 1, 0, [])]
def tb_X11_seekNever_1 : List (Nat × zO) := [(64, .isub, 1, 0, []), (65, .if_icmp .ne 11, 3, 0, []), (68, .aload_n 0, 1, 0, []), (69, .iload_n 1, 1, 0, []), (70, .invokevirtual 221, 3, 1, [(11, 114, 0, "", "")]), (73, .goto (-59), 3, 0, []), (76, .iinc 2 1, 3, 0, []), (79, .aload_n 0, 1, 0, []), (80, .getfield 40, 3, 2, [(11, 24, 0, "", "")]), (83, .iload_n 2, 1, 0, []), (84, .iconst (-1), 1, 0, []), (85, .iastore, 1, 0, []), (86, .goto (-72), 3, 0, []), (89, .return_, 1, 0, [])]
def tb_X11_seekNever : List (Nat × zO) := tb_X11_seekNever_0 ++ tb_X11_seekNever_1
def tb_X11_never_0 : List (Nat × zO) := [(0, .iload_n 1, 1, 0, []), (1, .i2l, 1, 0, []), (2, .lconst 1, 1, 0, []), (3, .ldc2_w 224, 3, 5, []), (6, .invokestatic 101, 3, 3, [(0, 86, 2, "", "")]), (9, .ifCond .eq 17, 3, 0, []), (12, .iload_n 2, 1, 0, []), (13, .i2l, 1, 0, []), (14, .ldc2_w 226, 3, (-1), []), (17, .ldc2_w 228, 3, 4, []), (20, .invokestatic 101, 3, 3, [(0, 86, 2, "", "")]), (23, .ifCond .ne 6, 3, 0, []), (26, .bipush (-2), 2, 0, []), (28, .ireturn, 1, 0, []), (29, .aload_n 0, 1, 0, []), (30, .getfield 98, 3, 0, [(11, 2, 0, "", "")]), (33, .ifCond .ne 6, 3, 0, []), (36, .bipush (-3), 2, 0, []), (38, .ireturn, 1, 0, []), (39, .aload_n 0, 1, 0, []), (40, .iload_n 1, 1, 0, []), (41, .invokevirtual 230, 3, 1, [(11, 115, 0, "", "")]), (44, .aload_n 0, 1, 0, []), (45, .getfield 215, 3, 0, [(11, 26, 0, "", "")]), (48, .ifCond .ge 8, 3, 0, []), (51, .bipush (-9), 2, 0, []), (53, .goto 30, 3, 0, []), (56, .iload_n 2, 1, 0, []), (57, .ifCond .ge 10, 3, 0, []), (60, .aload_n 0, 1, 0, []), (61, .getfield 215, 3, 0, [(11, 26, 0, "", "")]), (64, .goto 19, 3, 0, []), (67, .iload_n 2, 1, 0, []), (68, .iload_n 1, 1, 0, []), (69, .if_icmp .ge 12, 3, 0, []), (72, .aload_n 0, 1, 0, []), (73, .getfield 43, 3, 2, [(11, 25, 0, "", "")]), (76, .iload_n 2, 1, 0, []), (77, .iaload, 1, 0, []), (78, .goto 5, 3, 0, [])]
def tb_X11_never_1 : List (Nat × zO) := [(81, .bipush (-9), 2, 0, []), (83, .ireturn, 1, 0, [])]
def tb_X11_never : List (Nat × zO) := tb_X11_never_0 ++ tb_X11_never_1
def tb_X11_study_0 : List (Nat × zO) := [(0, .iload_n 1, 1, 0, []), (1, .invokestatic 134, 3, 1, [(0, 127, 2, "", "")]), (4, .ifCond .eq 9, 3, 0, []), (7, .aload_n 0, 1, 0, []), (8, .iconst (-1), 1, 0, []), (9, .invokevirtual 138, 3, 1, [(11, 91, 0, "", "")]), (12, .ireturn, 1, 0, []), (13, .iload_n 2, 1, 0, []), (14, .i2l, 1, 0, []), (15, .lconst 0, 1, 0, []), (16, .ldc2_w 141, 3, 2, []), (19, .invokestatic 101, 3, 3, [(0, 86, 2, "", "")]), (22, .ifCond .ne 10, 3, 0, []), (25, .aload_n 0, 1, 0, []), (26, .bipush (-2), 2, 0, []), (28, .invokevirtual 138, 3, 1, [(11, 91, 0, "", "")]), (31, .ireturn, 1, 0, []), (32, .aload_n 0, 1, 0, []), (33, .iload_n 1, 1, 0, []), (34, .iload_n 2, 1, 0, []), (35, .iload_n 3, 1, 0, []), (36, .iload 4, 2, 0, []), (38, .invokevirtual 208, 3, 4, [(11, 110, 0, "", "")]), (41, .istore 5, 2, 0, []), (43, .iload 5, 2, 0, []), (45, .ifCond .ge 6, 3, 0, []), (48, .iload 5, 2, 0, []), (50, .ireturn, 1, 0, []), (51, .bipush (-9), 2, 0, []), (53, .istore 6, 2, 0, []), (55, .iconst 0, 1, 0, []), (56, .istore 7, 2, 0, []), (58, .iload 7, 2, 0, []), (60, .sipush 255, 3, 0, []), (63, .if_icmp .gt 62, 3, 0, []), (66, .iload 6, 2, 0, []), (68, .ifCond .lt 16, 3, 0, []), (71, .iload 7, 2, 0, []), (73, .invokestatic 233, 3, 1, [(0, 89, 2, "", "")]), (76, .iload 6, 2, 0, [])]
def tb_X11_study_1 : List (Nat × zO) := [(78, .invokestatic 233, 3, 1, [(0, 89, 2, "", "")]), (81, .if_icmp .ge 38, 3, 0, []), (84, .aload_n 0, 1, 0, []), (85, .bipush 60, 2, 0, []), (87, .iload_n 1, 1, 0, []), (88, .imul, 1, 0, []), (89, .iload_n 3, 1, 0, []), (90, .iadd, 1, 0, []), (91, .iload 4, 2, 0, []), (93, .aload_n 0, 1, 0, []), (94, .getfield 153, 3, 0, [(11, 8, 0, "", "")]), (97, .iload 7, 2, 0, []), (99, .ixor, 1, 0, []), (100, .invokevirtual 211, 3, 3, [(11, 109, 0, "", "")]), (103, .aload_n 0, 1, 0, []), (104, .getfield 189, 3, 0, [(11, 23, 0, "", "")]), (107, .ifCond .eq 8, 3, 0, []), (110, .iload 7, 2, 0, []), (112, .goto 5, 3, 0, []), (115, .iload 6, 2, 0, []), (117, .istore 6, 2, 0, []), (119, .iinc 7 1, 3, 0, []), (122, .goto (-64), 3, 0, []), (125, .aload_n 0, 1, 0, []), (126, .iload 6, 2, 0, []), (128, .invokevirtual 138, 3, 1, [(11, 91, 0, "", "")]), (131, .ireturn, 1, 0, [])]
def tb_X11_study : List (Nat × zO) := tb_X11_study_0 ++ tb_X11_study_1
def tb_X11_nextWay_0 : List (Nat × zO) := [(0, .aload_n 0, 1, 0, []), (1, .getfield 55, 3, 2, [(11, 30, 0, "", "")]), (4, .iload_n 1, 1, 0, []), (5, .iaload, 1, 0, []), (6, .ifCond .lt 21, 3, 0, []), (9, .aload_n 0, 1, 0, []), (10, .getfield 58, 3, 2, [(11, 31, 0, "", "")]), (13, .iload_n 1, 1, 0, []), (14, .iaload, 1, 0, []), (15, .ifCond .ne 12, 3, 0, []), (18, .aload_n 0, 1, 0, []), (19, .getfield 58, 3, 2, [(11, 31, 0, "", "")]), (22, .iload_n 1, 1, 0, []), (23, .iconst 1, 1, 0, []), (24, .iastore, 1, 0, []), (25, .iconst 1, 1, 0, []), (26, .ireturn, 1, 0, []), (27, .aload_n 0, 1, 0, []), (28, .getfield 55, 3, 2, [(11, 30, 0, "", "")]), (31, .iload_n 1, 1, 0, []), (32, .iaload, 1, 0, []), (33, .ifCond .lt 39, 3, 0, []), (36, .aload_n 0, 1, 0, []), (37, .getfield 64, 3, 2, [(11, 33, 0, "", "")]), (40, .iload_n 1, 1, 0, []), (41, .aload_n 0, 1, 0, []), (42, .getfield 61, 3, 2, [(11, 32, 0, "", "")]), (45, .iload_n 1, 1, 0, []), (46, .iaload, 1, 0, []), (47, .aload_n 0, 1, 0, []), (48, .getfield 64, 3, 2, [(11, 33, 0, "", "")]), (51, .iload_n 1, 1, 0, []), (52, .iaload, 1, 0, []), (53, .if_icmp .ge 12, 3, 0, []), (56, .aload_n 0, 1, 0, []), (57, .getfield 61, 3, 2, [(11, 32, 0, "", "")]), (60, .iload_n 1, 1, 0, []), (61, .iaload, 1, 0, []), (62, .goto 9, 3, 0, []), (65, .aload_n 0, 1, 0, [])]
def tb_X11_nextWay_1 : List (Nat × zO) := [(66, .getfield 64, 3, 2, [(11, 33, 0, "", "")]), (69, .iload_n 1, 1, 0, []), (70, .iaload, 1, 0, []), (71, .iastore, 1, 0, []), (72, .aload_n 0, 1, 0, []), (73, .getfield 55, 3, 2, [(11, 30, 0, "", "")]), (76, .iload_n 1, 1, 0, []), (77, .dup2, 1, 0, []), (78, .iaload, 1, 0, []), (79, .iconst 1, 1, 0, []), (80, .iadd, 1, 0, []), (81, .iastore, 1, 0, []), (82, .aload_n 0, 1, 0, []), (83, .getfield 55, 3, 2, [(11, 30, 0, "", "")]), (86, .iload_n 1, 1, 0, []), (87, .iaload, 1, 0, []), (88, .aload_n 0, 1, 0, []), (89, .getfield 98, 3, 0, [(11, 2, 0, "", "")]), (92, .if_icmp .ge 34, 3, 0, []), (95, .aload_n 0, 1, 0, []), (96, .getfield 52, 3, 2, [(11, 29, 0, "", "")]), (99, .iload_n 1, 1, 0, []), (100, .iaload, 1, 0, []), (101, .aload_n 0, 1, 0, []), (102, .getfield 55, 3, 2, [(11, 30, 0, "", "")]), (105, .iload_n 1, 1, 0, []), (106, .iaload, 1, 0, []), (107, .invokestatic 162, 3, 2, [(0, 88, 2, "", "")]), (110, .ifCond .eq 16, 3, 0, []), (113, .aload_n 0, 1, 0, []), (114, .getfield 55, 3, 2, [(11, 30, 0, "", "")]), (117, .iload_n 1, 1, 0, []), (118, .dup2, 1, 0, []), (119, .iaload, 1, 0, []), (120, .iconst 1, 1, 0, []), (121, .iadd, 1, 0, []), (122, .iastore, 1, 0, []), (123, .goto (-41), 3, 0, []), (126, .aload_n 0, 1, 0, []), (127, .getfield 58, 3, 2, [(11, 31, 0, "", "")])]
def tb_X11_nextWay_2 : List (Nat × zO) := [(130, .iload_n 1, 1, 0, []), (131, .iconst 0, 1, 0, []), (132, .iastore, 1, 0, []), (133, .aload_n 0, 1, 0, []), (134, .getfield 61, 3, 2, [(11, 32, 0, "", "")]), (137, .iload_n 1, 1, 0, []), (138, .iconst (-1), 1, 0, []), (139, .iastore, 1, 0, []), (140, .aload_n 0, 1, 0, []), (141, .getfield 55, 3, 2, [(11, 30, 0, "", "")]), (144, .iload_n 1, 1, 0, []), (145, .iaload, 1, 0, []), (146, .aload_n 0, 1, 0, []), (147, .getfield 98, 3, 0, [(11, 2, 0, "", "")]), (150, .if_icmp .ge 7, 3, 0, []), (153, .iconst 1, 1, 0, []), (154, .goto 4, 3, 0, []), (157, .iconst 0, 1, 0, []), (158, .ireturn, 1, 0, [])]
def tb_X11_nextWay : List (Nat × zO) := tb_X11_nextWay_0 ++ tb_X11_nextWay_1 ++ tb_X11_nextWay_2
def tb_X11_goWay_0 : List (Nat × zO) := [(0, .aload_n 0, 1, 0, []), (1, .getfield 55, 3, 2, [(11, 30, 0, "", "")]), (4, .iload_n 1, 1, 0, []), (5, .iaload, 1, 0, []), (6, .istore_n 2, 1, 0, []), (7, .aload_n 0, 1, 0, []), (8, .aload_n 0, 1, 0, []), (9, .getfield 49, 3, 2, [(11, 28, 0, "", "")]), (12, .iload_n 1, 1, 0, []), (13, .iaload, 1, 0, []), (14, .invokevirtual 200, 3, 1, [(11, 105, 0, "", "")]), (17, .aload_n 0, 1, 0, []), (18, .aload_n 0, 1, 0, []), (19, .getfield 46, 3, 2, [(11, 27, 0, "", "")]), (22, .iload_n 1, 1, 0, []), (23, .iaload, 1, 0, []), (24, .putfield 174, 3, 0, [(11, 18, 0, "", "")]), (27, .aload_n 0, 1, 0, []), (28, .iload_n 2, 1, 0, []), (29, .invokevirtual 197, 3, 1, [(11, 107, 0, "", "")]), (32, .ifCond .eq 30, 3, 0, []), (35, .aload_n 0, 1, 0, []), (36, .getfield 58, 3, 2, [(11, 31, 0, "", "")]), (39, .iload_n 1, 1, 0, []), (40, .iaload, 1, 0, []), (41, .iconst 1, 1, 0, []), (42, .if_icmp .ne 20, 3, 0, []), (45, .aload_n 0, 1, 0, []), (46, .dup, 1, 0, []), (47, .getfield 177, 3, 0, [(11, 19, 0, "", "")]), (50, .iconst 1, 1, 0, []), (51, .aload_n 0, 1, 0, []), (52, .getfield 19, 3, 2, [(11, 6, 0, "", "")]), (55, .iload_n 2, 1, 0, []), (56, .iaload, 1, 0, []), (57, .ishl, 1, 0, []), (58, .ior, 1, 0, []), (59, .putfield 177, 3, 0, [(11, 19, 0, "", "")]), (62, .aload_n 0, 1, 0, []), (63, .getfield 46, 3, 2, [(11, 27, 0, "", "")])]
def tb_X11_goWay_1 : List (Nat × zO) := [(66, .iload_n 1, 1, 0, []), (67, .iconst 1, 1, 0, []), (68, .iadd, 1, 0, []), (69, .aload_n 0, 1, 0, []), (70, .getfield 174, 3, 0, [(11, 18, 0, "", "")]), (73, .iastore, 1, 0, []), (74, .aload_n 0, 1, 0, []), (75, .getfield 49, 3, 2, [(11, 28, 0, "", "")]), (78, .iload_n 1, 1, 0, []), (79, .iconst 1, 1, 0, []), (80, .iadd, 1, 0, []), (81, .aload_n 0, 1, 0, []), (82, .getfield 177, 3, 0, [(11, 19, 0, "", "")]), (85, .iastore, 1, 0, []), (86, .aload_n 0, 1, 0, []), (87, .getfield 52, 3, 2, [(11, 29, 0, "", "")]), (90, .iload_n 1, 1, 0, []), (91, .iconst 1, 1, 0, []), (92, .iadd, 1, 0, []), (93, .aload_n 0, 1, 0, []), (94, .getfield 52, 3, 2, [(11, 29, 0, "", "")]), (97, .iload_n 1, 1, 0, []), (98, .iaload, 1, 0, []), (99, .iconst 1, 1, 0, []), (100, .iload_n 2, 1, 0, []), (101, .ishl, 1, 0, []), (102, .ior, 1, 0, []), (103, .iastore, 1, 0, []), (104, .aload_n 0, 1, 0, []), (105, .getfield 55, 3, 2, [(11, 30, 0, "", "")]), (108, .iload_n 1, 1, 0, []), (109, .iconst 1, 1, 0, []), (110, .iadd, 1, 0, []), (111, .iconst (-1), 1, 0, []), (112, .iastore, 1, 0, []), (113, .aload_n 0, 1, 0, []), (114, .getfield 64, 3, 2, [(11, 33, 0, "", "")]), (117, .iload_n 1, 1, 0, []), (118, .iconst 1, 1, 0, []), (119, .iadd, 1, 0, [])]
def tb_X11_goWay_2 : List (Nat × zO) := [(120, .bipush 99, 2, 0, []), (122, .iastore, 1, 0, []), (123, .return_, 1, 0, [])]
def tb_X11_goWay : List (Nat × zO) := tb_X11_goWay_0 ++ tb_X11_goWay_1 ++ tb_X11_goWay_2
def tb_X11_play_0 : List (Nat × zO) := [(0, .iconst 0, 1, 0, []), (1, .istore_n 2, 1, 0, []), (2, .aload_n 0, 1, 0, []), (3, .getfield 46, 3, 2, [(11, 27, 0, "", "")]), (6, .iconst 0, 1, 0, []), (7, .iconst 0, 1, 0, []), (8, .iastore, 1, 0, []), (9, .aload_n 0, 1, 0, []), (10, .getfield 49, 3, 2, [(11, 28, 0, "", "")]), (13, .iconst 0, 1, 0, []), (14, .aload_n 0, 1, 0, []), (15, .getfield 153, 3, 0, [(11, 8, 0, "", "")]), (18, .iastore, 1, 0, []), (19, .aload_n 0, 1, 0, []), (20, .getfield 52, 3, 2, [(11, 29, 0, "", "")]), (23, .iconst 0, 1, 0, []), (24, .iconst 0, 1, 0, []), (25, .iastore, 1, 0, []), (26, .aload_n 0, 1, 0, []), (27, .getfield 55, 3, 2, [(11, 30, 0, "", "")]), (30, .iconst 0, 1, 0, []), (31, .iconst (-1), 1, 0, []), (32, .iastore, 1, 0, []), (33, .aload_n 0, 1, 0, []), (34, .getfield 64, 3, 2, [(11, 33, 0, "", "")]), (37, .iconst 0, 1, 0, []), (38, .bipush 99, 2, 0, []), (40, .iastore, 1, 0, []), (41, .iload_n 2, 1, 0, []), (42, .ifCond .lt 127, 3, 0, []), (45, .iload_n 2, 1, 0, []), (46, .iload_n 1, 1, 0, []), (47, .if_icmp .eq 33, 3, 0, []), (50, .aload_n 0, 1, 0, []), (51, .getfield 46, 3, 2, [(11, 27, 0, "", "")]), (54, .iload_n 2, 1, 0, []), (55, .iaload, 1, 0, []), (56, .aload_n 0, 1, 0, []), (57, .getfield 150, 3, 0, [(11, 1, 0, "", "")]), (60, .if_icmp .eq 20, 3, 0, [])]
def tb_X11_play_1 : List (Nat × zO) := [(63, .aload_n 0, 1, 0, []), (64, .getfield 52, 3, 2, [(11, 29, 0, "", "")]), (67, .iload_n 2, 1, 0, []), (68, .iaload, 1, 0, []), (69, .iconst 1, 1, 0, []), (70, .aload_n 0, 1, 0, []), (71, .getfield 98, 3, 0, [(11, 2, 0, "", "")]), (74, .ishl, 1, 0, []), (75, .iconst 1, 1, 0, []), (76, .isub, 1, 0, []), (77, .if_icmp .ne 7, 3, 0, []), (80, .iconst 1, 1, 0, []), (81, .goto 4, 3, 0, []), (84, .iconst 0, 1, 0, []), (85, .istore_n 3, 1, 0, []), (86, .iload_n 3, 1, 0, []), (87, .ifCond .ne 23, 3, 0, []), (90, .aload_n 0, 1, 0, []), (91, .iload_n 2, 1, 0, []), (92, .invokevirtual 236, 3, 1, [(11, 118, 0, "", "")]), (95, .iconst 1, 1, 0, []), (96, .if_icmp .ne 14, 3, 0, []), (99, .aload_n 0, 1, 0, []), (100, .iload_n 2, 1, 0, []), (101, .invokevirtual 239, 3, 1, [(11, 119, 0, "", "")]), (104, .iinc 2 1, 3, 0, []), (107, .goto 59, 3, 0, []), (110, .iload_n 3, 1, 0, []), (111, .ifCond .eq 12, 3, 0, []), (114, .aload_n 0, 1, 0, []), (115, .getfield 46, 3, 2, [(11, 27, 0, "", "")]), (118, .iload_n 2, 1, 0, []), (119, .iaload, 1, 0, []), (120, .goto 9, 3, 0, []), (123, .aload_n 0, 1, 0, []), (124, .getfield 64, 3, 2, [(11, 33, 0, "", "")]), (127, .iload_n 2, 1, 0, []), (128, .iaload, 1, 0, []), (129, .istore 4, 2, 0, []), (131, .iinc 2 (-1), 3, 0, [])]
def tb_X11_play_2 : List (Nat × zO) := [(134, .iload_n 2, 1, 0, []), (135, .ifCond .lt 31, 3, 0, []), (138, .aload_n 0, 1, 0, []), (139, .getfield 61, 3, 2, [(11, 32, 0, "", "")]), (142, .iload_n 2, 1, 0, []), (143, .iload 4, 2, 0, []), (145, .aload_n 0, 1, 0, []), (146, .getfield 61, 3, 2, [(11, 32, 0, "", "")]), (149, .iload_n 2, 1, 0, []), (150, .iaload, 1, 0, []), (151, .if_icmp .le 8, 3, 0, []), (154, .iload 4, 2, 0, []), (156, .goto 9, 3, 0, []), (159, .aload_n 0, 1, 0, []), (160, .getfield 61, 3, 2, [(11, 32, 0, "", "")]), (163, .iload_n 2, 1, 0, []), (164, .iaload, 1, 0, []), (165, .iastore, 1, 0, []), (166, .goto (-125), 3, 0, []), (169, .aload_n 0, 1, 0, []), (170, .getfield 64, 3, 2, [(11, 33, 0, "", "")]), (173, .iconst 0, 1, 0, []), (174, .iaload, 1, 0, []), (175, .ireturn, 1, 0, [])]
def tb_X11_play : List (Nat × zO) := tb_X11_play_0 ++ tb_X11_play_1 ++ tb_X11_play_2
def tb_X11_game : List (Nat × zO) := [(0, .iload_n 1, 1, 0, []), (1, .i2l, 1, 0, []), (2, .lconst 1, 1, 0, []), (3, .ldc2_w 228, 3, 4, []), (6, .invokestatic 101, 3, 3, [(0, 86, 2, "", "")]), (9, .ifCond .ne 6, 3, 0, []), (12, .bipush (-2), 2, 0, []), (14, .ireturn, 1, 0, []), (15, .aload_n 0, 1, 0, []), (16, .getfield 98, 3, 0, [(11, 2, 0, "", "")]), (19, .ifCond .ne 8, 3, 0, []), (22, .bipush (-3), 2, 0, []), (24, .goto 8, 3, 0, []), (27, .aload_n 0, 1, 0, []), (28, .iload_n 1, 1, 0, []), (29, .invokevirtual 242, 3, 1, [(11, 120, 0, "", "")]), (32, .ireturn, 1, 0, [])]
def tb_X11_porter_0 : List (Nat × zO) := [(0, .aload_n 0, 1, 0, []), (1, .iload_n 2, 1, 0, []), (2, .invokevirtual 165, 3, 1, [(11, 94, 0, "", "")]), (5, .ifCond .ne 25, 3, 0, []), (8, .iload_n 1, 1, 0, []), (9, .i2l, 1, 0, []), (10, .lconst 0, 1, 0, []), (11, .ldc2_w 245, 3, 8, []), (14, .invokestatic 101, 3, 3, [(0, 86, 2, "", "")]), (17, .ifCond .eq 13, 3, 0, []), (20, .iload_n 3, 1, 0, []), (21, .i2l, 1, 0, []), (22, .lconst 0, 1, 0, []), (23, .lconst 1, 1, 0, []), (24, .invokestatic 101, 3, 3, [(0, 86, 2, "", "")]), (27, .ifCond .ne 7, 3, 0, []), (30, .invokestatic 94, 3, 0, [(0, 87, 2, "", "")]), (33, .lreturn, 1, 0, []), (34, .aload_n 0, 1, 0, []), (35, .getfield 13, 3, 2, [(11, 4, 0, "", "")]), (38, .iload_n 2, 1, 0, []), (39, .iaload, 1, 0, []), (40, .aload_n 0, 1, 0, []), (41, .getfield 16, 3, 2, [(11, 5, 0, "", "")]), (44, .iload_n 2, 1, 0, []), (45, .iaload, 1, 0, []), (46, .if_icmp .ne 7, 3, 0, []), (49, .iconst 1, 1, 0, []), (50, .goto 4, 3, 0, []), (53, .iconst 0, 1, 0, []), (54, .istore 4, 2, 0, []), (56, .iload 4, 2, 0, []), (58, .ifCond .eq 12, 3, 0, []), (61, .ldc2_w 245, 3, 8, []), (64, .iload_n 1, 1, 0, []), (65, .i2l, 1, 0, []), (66, .lmul, 1, 0, []), (67, .goto 8, 3, 0, []), (70, .iload_n 1, 1, 0, []), (71, .i2l, 1, 0, [])]
def tb_X11_porter_1 : List (Nat × zO) := [(72, .iload_n 1, 1, 0, []), (73, .i2l, 1, 0, []), (74, .lmul, 1, 0, []), (75, .lstore 5, 2, 0, []), (77, .iload 4, 2, 0, []), (79, .ifCond .eq 15, 3, 0, []), (82, .ldc2_w 245, 3, 8, []), (85, .bipush 8, 2, 0, []), (87, .iload_n 1, 1, 0, []), (88, .isub, 1, 0, []), (89, .i2l, 1, 0, []), (90, .lmul, 1, 0, []), (91, .goto 16, 3, 0, []), (94, .ldc2_w 245, 3, 8, []), (97, .iload_n 1, 1, 0, []), (98, .i2l, 1, 0, []), (99, .lsub, 1, 0, []), (100, .ldc2_w 245, 3, 8, []), (103, .iload_n 1, 1, 0, []), (104, .i2l, 1, 0, []), (105, .lsub, 1, 0, []), (106, .lmul, 1, 0, []), (107, .lstore 7, 2, 0, []), (109, .aload_n 0, 1, 0, []), (110, .getfield 7, 3, 2, [(11, 3, 0, "", "")]), (113, .iload_n 2, 1, 0, []), (114, .iaload, 1, 0, []), (115, .ifCond .ne 8, 3, 0, []), (118, .lload 7, 2, 0, []), (120, .goto 9, 3, 0, []), (123, .ldc2_w 247, 3, 64, []), (126, .lload 5, 2, 0, []), (128, .lsub, 1, 0, []), (129, .ldc2_w 247, 3, 64, []), (132, .iload_n 3, 1, 0, []), (133, .invokestatic 249, 3, 3, [(0, 90, 2, "", "")]), (136, .lreturn, 1, 0, [])]
def tb_X11_porter : List (Nat × zO) := tb_X11_porter_0 ++ tb_X11_porter_1
def tb_X11_reading_0 : List (Nat × zO) := [(0, .aload_n 0, 1, 0, []), (1, .iload_n 1, 1, 0, []), (2, .invokevirtual 165, 3, 1, [(11, 94, 0, "", "")]), (5, .ifCond .ne 17, 3, 0, []), (8, .iload_n 2, 1, 0, []), (9, .bipush (-9), 2, 0, []), (11, .if_icmp .eq 13, 3, 0, []), (14, .aload_n 0, 1, 0, []), (15, .iload_n 2, 1, 0, []), (16, .invokevirtual 165, 3, 1, [(11, 94, 0, "", "")]), (19, .ifCond .eq 5, 3, 0, []), (22, .iconst (-1), 1, 0, []), (23, .ireturn, 1, 0, []), (24, .iload_n 3, 1, 0, []), (25, .i2l, 1, 0, []), (26, .lconst 0, 1, 0, []), (27, .ldc2_w 253, 3, 9, []), (30, .invokestatic 101, 3, 3, [(0, 86, 2, "", "")]), (33, .ifCond .ne 6, 3, 0, []), (36, .bipush (-2), 2, 0, []), (38, .ireturn, 1, 0, []), (39, .aload_n 0, 1, 0, []), (40, .getfield 159, 3, 0, [(11, 34, 0, "", "")]), (43, .bipush 8, 2, 0, []), (45, .if_icmp .ne 6, 3, 0, []), (48, .bipush (-4), 2, 0, []), (50, .ireturn, 1, 0, []), (51, .aload_n 0, 1, 0, []), (52, .getfield 67, 3, 2, [(11, 35, 0, "", "")]), (55, .aload_n 0, 1, 0, []), (56, .getfield 159, 3, 0, [(11, 34, 0, "", "")]), (59, .iload_n 1, 1, 0, []), (60, .iastore, 1, 0, []), (61, .aload_n 0, 1, 0, []), (62, .getfield 70, 3, 2, [(11, 36, 0, "", "")]), (65, .aload_n 0, 1, 0, []), (66, .getfield 159, 3, 0, [(11, 34, 0, "", "")]), (69, .iload_n 2, 1, 0, []), (70, .iastore, 1, 0, []), (71, .aload_n 0, 1, 0, [])]
def tb_X11_reading_1 : List (Nat × zO) := [(72, .getfield 73, 3, 2, [(11, 37, 0, "", "")]), (75, .aload_n 0, 1, 0, []), (76, .getfield 159, 3, 0, [(11, 34, 0, "", "")]), (79, .iload_n 3, 1, 0, []), (80, .iastore, 1, 0, []), (81, .aload_n 0, 1, 0, []), (82, .dup, 1, 0, []), (83, .getfield 159, 3, 0, [(11, 34, 0, "", "")]), (86, .iconst 1, 1, 0, []), (87, .iadd, 1, 0, []), (88, .putfield 159, 3, 0, [(11, 34, 0, "", "")]), (91, .aload_n 0, 1, 0, []), (92, .getfield 159, 3, 0, [(11, 34, 0, "", "")]), (95, .iconst 1, 1, 0, []), (96, .isub, 1, 0, []), (97, .ireturn, 1, 0, [])]
def tb_X11_reading : List (Nat × zO) := tb_X11_reading_0 ++ tb_X11_reading_1
def tb_X11_back : List (Nat × zO) := [(0, .iload_n 1, 1, 0, []), (1, .i2l, 1, 0, []), (2, .lconst 0, 1, 0, []), (3, .aload_n 0, 1, 0, []), (4, .getfield 159, 3, 0, [(11, 34, 0, "", "")]), (7, .i2l, 1, 0, []), (8, .invokestatic 101, 3, 3, [(0, 86, 2, "", "")]), (11, .ifCond .ne 6, 3, 0, []), (14, .bipush (-2), 2, 0, []), (16, .ireturn, 1, 0, []), (17, .aload_n 0, 1, 0, []), (18, .dup, 1, 0, []), (19, .getfield 159, 3, 0, [(11, 34, 0, "", "")]), (22, .iload_n 1, 1, 0, []), (23, .isub, 1, 0, []), (24, .putfield 159, 3, 0, [(11, 34, 0, "", "")]), (27, .aload_n 0, 1, 0, []), (28, .getfield 159, 3, 0, [(11, 34, 0, "", "")]), (31, .ireturn, 1, 0, [])]
def tb_X11_areSo_0 : List (Nat × zO) := [(0, .iconst 1, 1, 0, []), (1, .istore_n 2, 1, 0, []), (2, .iconst 0, 1, 0, []), (3, .istore_n 3, 1, 0, []), (4, .iload_n 3, 1, 0, []), (5, .aload_n 0, 1, 0, []), (6, .getfield 159, 3, 0, [(11, 34, 0, "", "")]), (9, .if_icmp .ge 66, 3, 0, []), (12, .iload_n 2, 1, 0, []), (13, .ifCond .eq 62, 3, 0, []), (16, .aload_n 0, 1, 0, []), (17, .iload_n 1, 1, 0, []), (18, .invokevirtual 200, 3, 1, [(11, 105, 0, "", "")]), (21, .aload_n 0, 1, 0, []), (22, .aload_n 0, 1, 0, []), (23, .getfield 67, 3, 2, [(11, 35, 0, "", "")]), (26, .iload_n 3, 1, 0, []), (27, .iaload, 1, 0, []), (28, .invokevirtual 203, 3, 1, [(11, 108, 0, "", "")]), (31, .aload_n 0, 1, 0, []), (32, .getfield 70, 3, 2, [(11, 36, 0, "", "")]), (35, .iload_n 3, 1, 0, []), (36, .iaload, 1, 0, []), (37, .ifCond .lt 13, 3, 0, []), (40, .aload_n 0, 1, 0, []), (41, .aload_n 0, 1, 0, []), (42, .getfield 70, 3, 2, [(11, 36, 0, "", "")]), (45, .iload_n 3, 1, 0, []), (46, .iaload, 1, 0, []), (47, .invokevirtual 203, 3, 1, [(11, 108, 0, "", "")]), (50, .aload_n 0, 1, 0, []), (51, .getfield 174, 3, 0, [(11, 18, 0, "", "")]), (54, .aload_n 0, 1, 0, []), (55, .getfield 73, 3, 2, [(11, 37, 0, "", "")]), (58, .iload_n 3, 1, 0, []), (59, .iaload, 1, 0, []), (60, .if_icmp .ne 7, 3, 0, []), (63, .iconst 1, 1, 0, []), (64, .goto 4, 3, 0, []), (67, .iconst 0, 1, 0, [])]
def tb_X11_areSo_1 : List (Nat × zO) := [(68, .istore_n 2, 1, 0, []), (69, .iinc 3 1, 3, 0, []), (72, .goto (-68), 3, 0, []), (75, .iload_n 2, 1, 0, []), (76, .ireturn, 1, 1, [])]
def tb_X11_areSo : List (Nat × zO) := tb_X11_areSo_0 ++ tb_X11_areSo_1
def tb_X11_fits_0 : List (Nat × zO) := [(0, .iload_n 1, 1, 0, []), (1, .i2l, 1, 0, []), (2, .lconst 0, 1, 0, []), (3, .ldc2_w 141, 3, 2, []), (6, .invokestatic 101, 3, 3, [(0, 86, 2, "", "")]), (9, .ifCond .ne 6, 3, 0, []), (12, .bipush (-2), 2, 0, []), (14, .ireturn, 1, 0, []), (15, .aload_n 0, 1, 0, []), (16, .getfield 98, 3, 0, [(11, 2, 0, "", "")]), (19, .ifCond .ne 6, 3, 0, []), (22, .bipush (-3), 2, 0, []), (24, .ireturn, 1, 0, []), (25, .iconst 0, 1, 0, []), (26, .istore_n 2, 1, 0, []), (27, .bipush (-9), 2, 0, []), (29, .istore_n 3, 1, 0, []), (30, .iconst 0, 1, 0, []), (31, .istore 4, 2, 0, []), (33, .iconst 0, 1, 0, []), (34, .istore 5, 2, 0, []), (36, .iload 5, 2, 0, []), (38, .sipush 255, 3, 0, []), (41, .if_icmp .gt 39, 3, 0, []), (44, .aload_n 0, 1, 0, []), (45, .iload 5, 2, 0, []), (47, .invokevirtual 255, 3, 1, [(11, 125, 0, "", "")]), (50, .ifCond .eq 24, 3, 0, []), (53, .iinc 2 1, 3, 0, []), (56, .iload_n 3, 1, 0, []), (57, .ifCond .ge 8, 3, 0, []), (60, .iload 5, 2, 0, []), (62, .goto 4, 3, 0, []), (65, .iload_n 3, 1, 0, []), (66, .istore_n 3, 1, 0, []), (67, .iload 4, 2, 0, []), (69, .iload 5, 2, 0, []), (71, .ior, 1, 0, []), (72, .istore 4, 2, 0, []), (74, .iinc 5 1, 3, 0, [])]
def tb_X11_fits_1 : List (Nat × zO) := [(77, .goto (-41), 3, 0, []), (80, .iload_n 1, 1, 0, []), (81, .ifCond .ne 7, 3, 0, []), (84, .iload_n 2, 1, 0, []), (85, .goto 20, 3, 0, []), (88, .iload_n 1, 1, 0, []), (89, .iconst 1, 1, 0, []), (90, .if_icmp .ne 7, 3, 0, []), (93, .iload_n 3, 1, 0, []), (94, .goto 11, 3, 0, []), (97, .sipush 255, 3, 0, []), (100, .iload 4, 2, 0, []), (102, .iconst (-1), 1, 0, []), (103, .ixor, 1, 0, []), (104, .iand, 1, 0, []), (105, .ireturn, 1, 0, [])]
def tb_X11_fits : List (Nat × zO) := tb_X11_fits_0 ++ tb_X11_fits_1
def tb_X11_noSheet : List (Nat × zO) := [(0, .iload_n 0, 1, 0, []), (1, .i2l, 1, 0, []), (2, .lconst 0, 1, 0, []), (3, .ldc2_w 206, 3, 3, []), (6, .invokestatic 101, 3, 3, [(0, 86, 2, "", "")]), (9, .ifCond .ne 7, 3, 0, []), (12, .iconst 1, 1, 0, []), (13, .goto 4, 3, 0, []), (16, .iconst 0, 1, 0, []), (17, .ireturn, 1, 1, [])]
def tb_X11_sheet_0 : List (Nat × zO) := [(0, .iload_n 1, 1, 0, []), (1, .invokestatic 134, 3, 1, [(0, 127, 2, "", "")]), (4, .ifCond .eq 9, 3, 0, []), (7, .aload_n 0, 1, 0, []), (8, .iconst (-1), 1, 0, []), (9, .invokevirtual 138, 3, 1, [(11, 91, 0, "", "")]), (12, .ireturn, 1, 0, []), (13, .iload_n 2, 1, 0, []), (14, .i2l, 1, 0, []), (15, .lconst 0, 1, 0, []), (16, .ldc2_w 141, 3, 2, []), (19, .invokestatic 101, 3, 3, [(0, 86, 2, "", "")]), (22, .ifCond .eq 9, 3, 0, []), (25, .iload_n 3, 1, 0, []), (26, .bipush 60, 2, 0, []), (28, .if_icmp .le 10, 3, 0, []), (31, .aload_n 0, 1, 0, []), (32, .bipush (-2), 2, 0, []), (34, .invokevirtual 138, 3, 1, [(11, 91, 0, "", "")]), (37, .ireturn, 1, 0, []), (38, .iload_n 3, 1, 0, []), (39, .ifCond .ge 9, 3, 0, []), (42, .aload_n 0, 1, 0, []), (43, .iconst 4, 1, 0, []), (44, .invokevirtual 126, 3, 1, [(11, 92, 0, "", "")]), (47, .ireturn, 1, 0, []), (48, .aload_n 0, 1, 0, []), (49, .getfield 76, 3, 2, [(11, 38, 0, "", "")]), (52, .iload_n 1, 1, 0, []), (53, .iload_n 3, 1, 0, []), (54, .iastore, 1, 0, []), (55, .aload_n 0, 1, 0, []), (56, .getfield 79, 3, 2, [(11, 39, 0, "", "")]), (59, .iload_n 1, 1, 0, []), (60, .iload_n 2, 1, 0, []), (61, .iastore, 1, 0, []), (62, .iconst 0, 1, 0, []), (63, .istore 4, 2, 0, []), (65, .iload 4, 2, 0, []), (67, .iload_n 3, 1, 0, [])]
def tb_X11_sheet_1 : List (Nat × zO) := [(68, .if_icmp .ge 22, 3, 0, []), (71, .aload_n 0, 1, 0, []), (72, .getfield 82, 3, 2, [(11, 40, 0, "", "")]), (75, .bipush 60, 2, 0, []), (77, .iload_n 1, 1, 0, []), (78, .imul, 1, 0, []), (79, .iload 4, 2, 0, []), (81, .iadd, 1, 0, []), (82, .iconst 0, 1, 0, []), (83, .iastore, 1, 0, []), (84, .iinc 4 1, 3, 0, []), (87, .goto (-22), 3, 0, []), (90, .aload_n 0, 1, 0, []), (91, .iconst 1, 1, 0, []), (92, .invokevirtual 138, 3, 1, [(11, 91, 0, "", "")]), (95, .ireturn, 1, 0, [])]
def tb_X11_sheet : List (Nat × zO) := tb_X11_sheet_0 ++ tb_X11_sheet_1
def tb_X11_lose : List (Nat × zO) := [(0, .iload_n 1, 1, 0, []), (1, .invokestatic 134, 3, 1, [(0, 127, 2, "", "")]), (4, .ifCond .eq 5, 3, 0, []), (7, .iconst (-1), 1, 0, []), (8, .ireturn, 1, 0, []), (9, .aload_n 0, 1, 0, []), (10, .getfield 76, 3, 2, [(11, 38, 0, "", "")]), (13, .iload_n 1, 1, 0, []), (14, .iaload, 1, 0, []), (15, .ifCond .ge 7, 3, 0, []), (18, .iconst 0, 1, 0, []), (19, .goto 4, 3, 0, []), (22, .iconst 1, 1, 0, []), (23, .istore_n 2, 1, 0, []), (24, .aload_n 0, 1, 0, []), (25, .getfield 76, 3, 2, [(11, 38, 0, "", "")]), (28, .iload_n 1, 1, 0, []), (29, .iconst (-1), 1, 0, []), (30, .iastore, 1, 0, []), (31, .iload_n 2, 1, 0, []), (32, .ireturn, 1, 0, [])]
def tb_X11_noCell : List (Nat × zO) := [(0, .aload_n 0, 1, 0, []), (1, .getfield 76, 3, 2, [(11, 38, 0, "", "")]), (4, .iload_n 1, 1, 0, []), (5, .iaload, 1, 0, []), (6, .ifCond .ge 7, 3, 0, []), (9, .iconst 1, 1, 0, []), (10, .goto 26, 3, 0, []), (13, .iload_n 2, 1, 0, []), (14, .i2l, 1, 0, []), (15, .lconst 0, 1, 0, []), (16, .aload_n 0, 1, 0, []), (17, .getfield 76, 3, 2, [(11, 38, 0, "", "")]), (20, .iload_n 1, 1, 0, []), (21, .iaload, 1, 0, []), (22, .i2l, 1, 0, []), (23, .lconst 1, 1, 0, []), (24, .lsub, 1, 0, []), (25, .invokestatic 101, 3, 3, [(0, 86, 2, "", "")]), (28, .ifCond .eq 7, 3, 0, []), (31, .iconst 0, 1, 0, []), (32, .goto 4, 3, 0, []), (35, .iconst 3, 1, 0, []), (36, .ireturn, 1, 0, [])]
def tb_X11_put_0 : List (Nat × zO) := [(0, .iload_n 1, 1, 0, []), (1, .invokestatic 134, 3, 1, [(0, 127, 2, "", "")]), (4, .ifCond .eq 9, 3, 0, []), (7, .aload_n 0, 1, 0, []), (8, .iconst (-1), 1, 0, []), (9, .invokevirtual 138, 3, 1, [(11, 91, 0, "", "")]), (12, .ireturn, 1, 0, []), (13, .aload_n 0, 1, 0, []), (14, .iload_n 1, 1, 0, []), (15, .iload_n 2, 1, 0, []), (16, .invokevirtual 258, 3, 2, [(11, 130, 0, "", "")]), (19, .ifCond .le 14, 3, 0, []), (22, .aload_n 0, 1, 0, []), (23, .aload_n 0, 1, 0, []), (24, .iload_n 1, 1, 0, []), (25, .iload_n 2, 1, 0, []), (26, .invokevirtual 258, 3, 2, [(11, 130, 0, "", "")]), (29, .invokevirtual 126, 3, 1, [(11, 92, 0, "", "")]), (32, .ireturn, 1, 0, []), (33, .aload_n 0, 1, 0, []), (34, .getfield 82, 3, 2, [(11, 40, 0, "", "")]), (37, .bipush 60, 2, 0, []), (39, .iload_n 1, 1, 0, []), (40, .imul, 1, 0, []), (41, .iload_n 2, 1, 0, []), (42, .iadd, 1, 0, []), (43, .aload_n 0, 1, 0, []), (44, .getfield 79, 3, 2, [(11, 39, 0, "", "")]), (47, .iload_n 1, 1, 0, []), (48, .iaload, 1, 0, []), (49, .ifCond .ne 8, 3, 0, []), (52, .iload_n 3, 1, 0, []), (53, .i2b, 1, 0, []), (54, .goto 19, 3, 0, []), (57, .aload_n 0, 1, 0, []), (58, .getfield 79, 3, 2, [(11, 39, 0, "", "")]), (61, .iload_n 1, 1, 0, []), (62, .iaload, 1, 0, []), (63, .iconst 1, 1, 0, []), (64, .if_icmp .ne 8, 3, 0, [])]
def tb_X11_put_1 : List (Nat × zO) := [(67, .iload_n 3, 1, 0, []), (68, .i2s, 1, 0, []), (69, .goto 4, 3, 0, []), (72, .iload_n 3, 1, 0, []), (73, .iastore, 1, 0, []), (74, .aload_n 0, 1, 0, []), (75, .iconst 1, 1, 0, []), (76, .invokevirtual 138, 3, 1, [(11, 91, 0, "", "")]), (79, .ireturn, 1, 0, [])]
def tb_X11_put : List (Nat × zO) := tb_X11_put_0 ++ tb_X11_put_1
def tb_X11_cell_0 : List (Nat × zO) := [(0, .aload_n 0, 1, 0, []), (1, .iconst 0, 1, 0, []), (2, .putfield 90, 3, 0, [(11, 0, 0, "", "")]), (5, .iload_n 1, 1, 0, []), (6, .invokestatic 134, 3, 1, [(0, 127, 2, "", "")]), (9, .ifCond .ne 15, 3, 0, []), (12, .iload_n 3, 1, 0, []), (13, .i2l, 1, 0, []), (14, .lconst 0, 1, 0, []), (15, .ldc2_w 141, 3, 2, []), (18, .invokestatic 101, 3, 3, [(0, 86, 2, "", "")]), (21, .ifCond .ne 7, 3, 0, []), (24, .invokestatic 94, 3, 0, [(0, 87, 2, "", "")]), (27, .lreturn, 1, 0, []), (28, .aload_n 0, 1, 0, []), (29, .getfield 76, 3, 2, [(11, 38, 0, "", "")]), (32, .iload_n 1, 1, 0, []), (33, .iaload, 1, 0, []), (34, .ifCond .lt 19, 3, 0, []), (37, .aload_n 0, 1, 0, []), (38, .getfield 79, 3, 2, [(11, 39, 0, "", "")]), (41, .iload_n 1, 1, 0, []), (42, .iaload, 1, 0, []), (43, .iload_n 3, 1, 0, []), (44, .if_icmp .eq 9, 3, 0, []), (47, .aload_n 0, 1, 0, []), (48, .iconst 2, 1, 0, []), (49, .invokevirtual 261, 3, 1, [(11, 93, 0, "", "")]), (52, .lreturn, 1, 0, []), (53, .aload_n 0, 1, 0, []), (54, .iload_n 1, 1, 0, []), (55, .iload_n 2, 1, 0, []), (56, .invokevirtual 258, 3, 2, [(11, 130, 0, "", "")]), (59, .ifCond .le 16, 3, 0, []), (62, .aload_n 0, 1, 0, []), (63, .aload_n 0, 1, 0, []), (64, .iload_n 1, 1, 0, []), (65, .iload_n 2, 1, 0, []), (66, .invokevirtual 258, 3, 2, [(11, 130, 0, "", "")]), (69, .invokevirtual 261, 3, 1, [(11, 93, 0, "", "")])]
def tb_X11_cell_1 : List (Nat × zO) := [(72, .goto 15, 3, 0, []), (75, .aload_n 0, 1, 0, []), (76, .getfield 82, 3, 2, [(11, 40, 0, "", "")]), (79, .bipush 60, 2, 0, []), (81, .iload_n 1, 1, 0, []), (82, .imul, 1, 0, []), (83, .iload_n 2, 1, 0, []), (84, .iadd, 1, 0, []), (85, .iaload, 1, 0, []), (86, .i2l, 1, 0, []), (87, .lreturn, 1, 0, [])]
def tb_X11_cell : List (Nat × zO) := tb_X11_cell_0 ++ tb_X11_cell_1
def tb_X11_isBeyond : List (Nat × zO) := [(0, .iload_n 0, 1, 0, []), (1, .ifCond .lt 19, 3, 0, []), (4, .lload_n 1, 1, 0, []), (5, .lconst 0, 1, 0, []), (6, .lcmp, 1, 0, []), (7, .ifCond .lt 13, 3, 0, []), (10, .iload_n 0, 1, 0, []), (11, .i2l, 1, 0, []), (12, .lload_n 1, 1, 0, []), (13, .ladd, 1, 0, []), (14, .iload_n 3, 1, 0, []), (15, .i2l, 1, 0, []), (16, .lcmp, 1, 0, []), (17, .ifCond .le 7, 3, 0, []), (20, .iconst 1, 1, 0, []), (21, .goto 4, 3, 0, []), (24, .iconst 0, 1, 0, []), (25, .ireturn, 1, 1, [])]
def tb_X11_copy_0 : List (Nat × zO) := [(0, .iload_n 1, 1, 0, []), (1, .invokestatic 134, 3, 1, [(0, 127, 2, "", "")]), (4, .ifCond .ne 10, 3, 0, []), (7, .iload_n 3, 1, 0, []), (8, .invokestatic 134, 3, 1, [(0, 127, 2, "", "")]), (11, .ifCond .eq 9, 3, 0, []), (14, .aload_n 0, 1, 0, []), (15, .iconst (-1), 1, 0, []), (16, .invokevirtual 138, 3, 1, [(11, 91, 0, "", "")]), (19, .ireturn, 1, 0, []), (20, .aload_n 0, 1, 0, []), (21, .getfield 76, 3, 2, [(11, 38, 0, "", "")]), (24, .iload_n 1, 1, 0, []), (25, .iaload, 1, 0, []), (26, .ifCond .lt 12, 3, 0, []), (29, .aload_n 0, 1, 0, []), (30, .getfield 76, 3, 2, [(11, 38, 0, "", "")]), (33, .iload_n 3, 1, 0, []), (34, .iaload, 1, 0, []), (35, .ifCond .ge 9, 3, 0, []), (38, .aload_n 0, 1, 0, []), (39, .iconst 1, 1, 0, []), (40, .invokevirtual 126, 3, 1, [(11, 92, 0, "", "")]), (43, .ireturn, 1, 0, []), (44, .aload_n 0, 1, 0, []), (45, .getfield 79, 3, 2, [(11, 39, 0, "", "")]), (48, .iload_n 1, 1, 0, []), (49, .iaload, 1, 0, []), (50, .aload_n 0, 1, 0, []), (51, .getfield 79, 3, 2, [(11, 39, 0, "", "")]), (54, .iload_n 3, 1, 0, []), (55, .iaload, 1, 0, []), (56, .if_icmp .eq 9, 3, 0, []), (59, .aload_n 0, 1, 0, []), (60, .iconst 2, 1, 0, []), (61, .invokevirtual 126, 3, 1, [(11, 92, 0, "", "")]), (64, .ireturn, 1, 0, []), (65, .iload_n 2, 1, 0, []), (66, .iload 5, 2, 0, []), (68, .i2l, 1, 0, [])]
def tb_X11_copy_1 : List (Nat × zO) := [(69, .aload_n 0, 1, 0, []), (70, .getfield 76, 3, 2, [(11, 38, 0, "", "")]), (73, .iload_n 1, 1, 0, []), (74, .iaload, 1, 0, []), (75, .invokestatic 130, 3, 3, [(0, 133, 2, "", "")]), (78, .ifCond .ne 20, 3, 0, []), (81, .iload 4, 2, 0, []), (83, .iload 5, 2, 0, []), (85, .i2l, 1, 0, []), (86, .aload_n 0, 1, 0, []), (87, .getfield 76, 3, 2, [(11, 38, 0, "", "")]), (90, .iload_n 3, 1, 0, []), (91, .iaload, 1, 0, []), (92, .invokestatic 130, 3, 3, [(0, 133, 2, "", "")]), (95, .ifCond .eq 9, 3, 0, []), (98, .aload_n 0, 1, 0, []), (99, .iconst 3, 1, 0, []), (100, .invokevirtual 126, 3, 1, [(11, 92, 0, "", "")]), (103, .ireturn, 1, 0, []), (104, .iconst 0, 1, 0, []), (105, .istore 6, 2, 0, []), (107, .iload 6, 2, 0, []), (109, .iload 5, 2, 0, []), (111, .if_icmp .ge 30, 3, 0, []), (114, .aload_n 0, 1, 0, []), (115, .getfield 85, 3, 2, [(11, 41, 0, "", "")]), (118, .iload 6, 2, 0, []), (120, .aload_n 0, 1, 0, []), (121, .getfield 82, 3, 2, [(11, 40, 0, "", "")]), (124, .bipush 60, 2, 0, []), (126, .iload_n 1, 1, 0, []), (127, .imul, 1, 0, []), (128, .iload_n 2, 1, 0, []), (129, .iadd, 1, 0, []), (130, .iload 6, 2, 0, []), (132, .iadd, 1, 0, []), (133, .iaload, 1, 0, []), (134, .iastore, 1, 0, []), (135, .iinc 6 1, 3, 0, []), (138, .goto (-31), 3, 0, [])]
def tb_X11_copy_2 : List (Nat × zO) := [(141, .iconst 0, 1, 0, []), (142, .istore 6, 2, 0, []), (144, .iload 6, 2, 0, []), (146, .iload 5, 2, 0, []), (148, .if_icmp .ge 31, 3, 0, []), (151, .aload_n 0, 1, 0, []), (152, .getfield 82, 3, 2, [(11, 40, 0, "", "")]), (155, .bipush 60, 2, 0, []), (157, .iload_n 3, 1, 0, []), (158, .imul, 1, 0, []), (159, .iload 4, 2, 0, []), (161, .iadd, 1, 0, []), (162, .iload 6, 2, 0, []), (164, .iadd, 1, 0, []), (165, .aload_n 0, 1, 0, []), (166, .getfield 85, 3, 2, [(11, 41, 0, "", "")]), (169, .iload 6, 2, 0, []), (171, .iaload, 1, 0, []), (172, .iastore, 1, 0, []), (173, .iinc 6 1, 3, 0, []), (176, .goto (-32), 3, 0, []), (179, .aload_n 0, 1, 0, []), (180, .iload 5, 2, 0, []), (182, .invokevirtual 138, 3, 1, [(11, 91, 0, "", "")]), (185, .ireturn, 1, 0, [])]
def tb_X11_copy : List (Nat × zO) := tb_X11_copy_0 ++ tb_X11_copy_1 ++ tb_X11_copy_2
def tb_X11_traced : List (Nat × zO) := [(0, .aload_n 0, 1, 0, []), (1, .bipush 31, 2, 0, []), (3, .aload_n 0, 1, 0, []), (4, .getfield 265, 3, 0, [(11, 42, 0, "", "")]), (7, .imul, 1, 0, []), (8, .iload_n 1, 1, 0, []), (9, .iadd, 1, 0, []), (10, .putfield 265, 3, 0, [(11, 42, 0, "", "")]), (13, .return_, 1, 0, [])]
def tb_X11_tell_0 : List (Nat × zO) := [(0, .aload_n 0, 1, 0, []), (1, .iload_n 1, 1, 0, []), (2, .invokevirtual 165, 3, 1, [(11, 94, 0, "", "")]), (5, .ifCond .eq 5, 3, 0, []), (8, .iconst (-1), 1, 0, []), (9, .ireturn, 1, 0, []), (10, .aload_n 0, 1, 0, []), (11, .getfield 7, 3, 2, [(11, 3, 0, "", "")]), (14, .iload_n 1, 1, 0, []), (15, .iaload, 1, 0, []), (16, .istore_n 2, 1, 0, []), (17, .iload_n 2, 1, 0, []), (18, .iconst 2, 1, 0, []), (19, .if_icmp .ne 8, 3, 0, []), (22, .aload_n 0, 1, 0, []), (23, .iconst 3, 1, 0, []), (24, .invokevirtual 268, 3, 1, [(11, 135, 0, "", "")]), (27, .iload_n 2, 1, 0, []), (28, .ifCond .le 8, 3, 0, []), (31, .aload_n 0, 1, 0, []), (32, .iconst 2, 1, 0, []), (33, .invokevirtual 268, 3, 1, [(11, 135, 0, "", "")]), (36, .aload_n 0, 1, 0, []), (37, .iconst 1, 1, 0, []), (38, .invokevirtual 268, 3, 1, [(11, 135, 0, "", "")]), (41, .iload_n 2, 1, 0, []), (42, .iconst 2, 1, 0, []), (43, .if_icmp .ne 8, 3, 0, []), (46, .aload_n 0, 1, 0, []), (47, .iconst 1, 1, 0, []), (48, .invokevirtual 268, 3, 1, [(11, 135, 0, "", "")]), (51, .aload_n 0, 1, 0, []), (52, .getfield 19, 3, 2, [(11, 6, 0, "", "")]), (55, .iload_n 1, 1, 0, []), (56, .iaload, 1, 0, []), (57, .istore_n 3, 1, 0, []), (58, .iload_n 2, 1, 0, []), (59, .ifCond .ne 7, 3, 0, []), (62, .iload_n 3, 1, 0, []), (63, .goto 21, 3, 0, [])]
def tb_X11_tell_1 : List (Nat × zO) := [(66, .iload_n 2, 1, 0, []), (67, .iconst 1, 1, 0, []), (68, .if_icmp .ne 10, 3, 0, []), (71, .iload_n 3, 1, 0, []), (72, .bipush 100, 2, 0, []), (74, .iadd, 1, 0, []), (75, .goto 9, 3, 0, []), (78, .iconst 2, 1, 0, []), (79, .iload_n 3, 1, 0, []), (80, .imul, 1, 0, []), (81, .bipush 100, 2, 0, []), (83, .iadd, 1, 0, []), (84, .ireturn, 1, 0, [])]
def tb_X11_tell : List (Nat × zO) := tb_X11_tell_0 ++ tb_X11_tell_1
def tb_X11_whisper : List (Nat × zO) := [(0, .aload_n 0, 1, 0, []), (1, .iload_n 1, 1, 0, []), (2, .invokevirtual 165, 3, 1, [(11, 94, 0, "", "")]), (5, .ifCond .eq 5, 3, 0, []), (8, .iconst (-1), 1, 0, []), (9, .ireturn, 1, 0, []), (10, .aload_n 0, 1, 0, []), (11, .aload_n 0, 1, 0, []), (12, .getfield 7, 3, 2, [(11, 3, 0, "", "")]), (15, .iload_n 1, 1, 0, []), (16, .iaload, 1, 0, []), (17, .iconst 2, 1, 0, []), (18, .if_icmp .ne 7, 3, 0, []), (21, .iconst 5, 1, 0, []), (22, .goto 4, 3, 0, []), (25, .iconst 4, 1, 0, []), (26, .invokevirtual 268, 3, 1, [(11, 135, 0, "", "")]), (29, .aload_n 0, 1, 0, []), (30, .getfield 7, 3, 2, [(11, 3, 0, "", "")]), (33, .iload_n 1, 1, 0, []), (34, .iaload, 1, 0, []), (35, .iconst 2, 1, 0, []), (36, .if_icmp .ne 8, 3, 0, []), (39, .bipush 50, 2, 0, []), (41, .goto 4, 3, 0, []), (44, .iload_n 1, 1, 0, []), (45, .ireturn, 1, 0, [])]
def tb_X11_as : List (Nat × zO) := [(0, .aload_n 0, 1, 0, []), (1, .iload_n 1, 1, 0, []), (2, .invokevirtual 165, 3, 1, [(11, 94, 0, "", "")]), (5, .ifCond .eq 9, 3, 0, []), (8, .aload_n 0, 1, 0, []), (9, .iconst (-1), 1, 0, []), (10, .invokevirtual 138, 3, 1, [(11, 91, 0, "", "")]), (13, .ireturn, 1, 0, []), (14, .iload_n 2, 1, 0, []), (15, .i2l, 1, 0, []), (16, .lconst 0, 1, 0, []), (17, .ldc2_w 141, 3, 2, []), (20, .invokestatic 101, 3, 3, [(0, 86, 2, "", "")]), (23, .ifCond .ne 10, 3, 0, []), (26, .aload_n 0, 1, 0, []), (27, .bipush (-2), 2, 0, []), (29, .invokevirtual 138, 3, 1, [(11, 91, 0, "", "")]), (32, .ireturn, 1, 0, []), (33, .aload_n 0, 1, 0, []), (34, .getfield 7, 3, 2, [(11, 3, 0, "", "")]), (37, .iload_n 1, 1, 0, []), (38, .iaload, 1, 0, []), (39, .iload_n 2, 1, 0, []), (40, .if_icmp .lt 11, 3, 0, []), (43, .aload_n 0, 1, 0, []), (44, .iconst 1, 1, 0, []), (45, .invokevirtual 138, 3, 1, [(11, 91, 0, "", "")]), (48, .goto 8, 3, 0, []), (51, .aload_n 0, 1, 0, []), (52, .iconst 2, 1, 0, []), (53, .invokevirtual 126, 3, 1, [(11, 92, 0, "", "")]), (56, .ireturn, 1, 0, [])]
def tb_X11_trace : List (Nat × zO) := [(0, .aload_n 0, 1, 0, []), (1, .getfield 265, 3, 0, [(11, 42, 0, "", "")]), (4, .ireturn, 1, 0, [])]
def tb_X11_fault : List (Nat × zO) := [(0, .aload_n 0, 1, 0, []), (1, .getfield 90, 3, 0, [(11, 0, 0, "", "")]), (4, .ireturn, 1, 0, [])]
def tb_X11_many : List (Nat × zO) := [(0, .iload_n 1, 1, 0, []), (1, .tableswitch 60 0 4 #[35, 40, 45, 50, 55], 35, 0, []), (36, .aload_n 0, 1, 0, []), (37, .getfield 98, 3, 0, [(11, 2, 0, "", "")]), (40, .ireturn, 1, 0, []), (41, .aload_n 0, 1, 0, []), (42, .getfield 150, 3, 0, [(11, 1, 0, "", "")]), (45, .ireturn, 1, 0, []), (46, .aload_n 0, 1, 0, []), (47, .getfield 153, 3, 0, [(11, 8, 0, "", "")]), (50, .ireturn, 1, 0, []), (51, .aload_n 0, 1, 0, []), (52, .getfield 156, 3, 0, [(11, 9, 0, "", "")]), (55, .ireturn, 1, 0, []), (56, .aload_n 0, 1, 0, []), (57, .getfield 159, 3, 0, [(11, 34, 0, "", "")]), (60, .ireturn, 1, 0, []), (61, .bipush (-2), 2, 0, []), (63, .ireturn, 1, 0, [])]
def tb_J6_bitCount_0f7a4_0 : List (Nat × zO) := [(0, .iload_n 0, 1, 0, []), (1, .iload_n 0, 1, 0, []), (2, .iconst 1, 1, 0, []), (3, .iushr, 1, 0, []), (4, .ldc_w 265, 3, 1431655765, []), (7, .iand, 1, 0, []), (8, .isub, 1, 0, []), (9, .istore_n 0, 1, 0, []), (10, .iload_n 0, 1, 0, []), (11, .ldc_w 266, 3, 858993459, []), (14, .iand, 1, 0, []), (15, .iload_n 0, 1, 0, []), (16, .iconst 2, 1, 0, []), (17, .iushr, 1, 0, []), (18, .ldc_w 266, 3, 858993459, []), (21, .iand, 1, 0, []), (22, .iadd, 1, 0, []), (23, .istore_n 0, 1, 0, []), (24, .iload_n 0, 1, 0, []), (25, .iload_n 0, 1, 0, []), (26, .iconst 4, 1, 0, []), (27, .iushr, 1, 0, []), (28, .iadd, 1, 0, []), (29, .ldc_w 267, 3, 252645135, []), (32, .iand, 1, 0, []), (33, .istore_n 0, 1, 0, []), (34, .iload_n 0, 1, 0, []), (35, .iload_n 0, 1, 0, []), (36, .bipush 8, 2, 0, []), (38, .iushr, 1, 0, []), (39, .iadd, 1, 0, []), (40, .istore_n 0, 1, 0, []), (41, .iload_n 0, 1, 0, []), (42, .iload_n 0, 1, 0, []), (43, .bipush 16, 2, 0, []), (45, .iushr, 1, 0, []), (46, .iadd, 1, 0, []), (47, .istore_n 0, 1, 0, []), (48, .iload_n 0, 1, 0, []), (49, .bipush 63, 2, 0, [])]
def tb_J6_bitCount_0f7a4_1 : List (Nat × zO) := [(51, .iand, 1, 0, []), (52, .ireturn, 1, 0, [])]
def tb_J6_bitCount_0f7a4 : List (Nat × zO) := tb_J6_bitCount_0f7a4_0 ++ tb_J6_bitCount_0f7a4_1
def tb_J7_fill_53178 : List (Nat × zO) := [(0, .iconst 0, 1, 0, []), (1, .istore_n 2, 1, 0, []), (2, .aload_n 0, 1, 0, []), (3, .arraylength, 1, 0, []), (4, .istore_n 3, 1, 0, []), (5, .iload_n 2, 1, 0, []), (6, .iload_n 3, 1, 0, []), (7, .if_icmp .ge 13, 3, 0, []), (10, .aload_n 0, 1, 0, []), (11, .iload_n 2, 1, 0, []), (12, .iload_n 1, 1, 0, []), (13, .iastore, 1, 0, []), (14, .iinc 2 1, 3, 0, []), (17, .goto (-12), 3, 0, []), (20, .return_, 1, 0, [])]
def tb_L_law_0 : List (Nat × zO) := [(0, .new 7, 3, 0, [(10, 12, 0, "", "")]), (3, .dup, 1, 0, []), (4, .invokespecial 9, 3, 0, [(0, 51, 4, "", "")]), (7, .astore_n 1, 1, 0, []), (8, .new 10, 3, 0, [(11, 43, 0, "", "")]), (11, .dup, 1, 0, []), (12, .invokespecial 12, 3, 0, [(0, 85, 4, "", "")]), (15, .astore_n 2, 1, 0, []), (16, .iconst 0, 1, 0, []), (17, .istore_n 3, 1, 0, []), (18, .iload_n 3, 1, 0, []), (19, .aload_n 0, 1, 0, []), (20, .arraylength, 1, 0, []), (21, .bipush 6, 2, 0, []), (23, .isub, 1, 0, []), (24, .if_icmp .gt 1012, 3, 0, []), (27, .aload_n 0, 1, 0, []), (28, .iload_n 3, 1, 0, []), (29, .iaload, 1, 0, []), (30, .bipush 31, 2, 0, []), (32, .iand, 1, 0, []), (33, .tableswitch 997 0 23 #[111, 164, 197, 246, 295, 358, 411, 444, 497, 520, 564, 607, 630, 653, 696, 719, 762, 806, 869, 892, 915, 948, 961, 974], 111, 0, []), (144, .aload_n 1, 1, 0, []), (145, .aload_n 0, 1, 0, []), (146, .iload_n 3, 1, 0, []), (147, .iconst 1, 1, 0, []), (148, .iadd, 1, 0, []), (149, .iaload, 1, 0, []), (150, .aload_n 0, 1, 0, []), (151, .iload_n 3, 1, 0, []), (152, .iconst 2, 1, 0, []), (153, .iadd, 1, 0, []), (154, .iaload, 1, 0, []), (155, .aload_n 0, 1, 0, []), (156, .iload_n 3, 1, 0, []), (157, .iconst 3, 1, 0, []), (158, .iadd, 1, 0, []), (159, .iaload, 1, 0, []), (160, .aload_n 0, 1, 0, []), (161, .iload_n 3, 1, 0, [])]
def tb_L_law_1 : List (Nat × zO) := [(162, .iconst 4, 1, 0, []), (163, .iadd, 1, 0, []), (164, .iaload, 1, 0, []), (165, .invokevirtual 13, 3, 4, [(10, 52, 0, "", "")]), (168, .aload_n 2, 1, 0, []), (169, .aload_n 0, 1, 0, []), (170, .iload_n 3, 1, 0, []), (171, .iconst 1, 1, 0, []), (172, .iadd, 1, 0, []), (173, .iaload, 1, 0, []), (174, .aload_n 0, 1, 0, []), (175, .iload_n 3, 1, 0, []), (176, .iconst 2, 1, 0, []), (177, .iadd, 1, 0, []), (178, .iaload, 1, 0, []), (179, .aload_n 0, 1, 0, []), (180, .iload_n 3, 1, 0, []), (181, .iconst 3, 1, 0, []), (182, .iadd, 1, 0, []), (183, .iaload, 1, 0, []), (184, .aload_n 0, 1, 0, []), (185, .iload_n 3, 1, 0, []), (186, .iconst 4, 1, 0, []), (187, .iadd, 1, 0, []), (188, .iaload, 1, 0, []), (189, .invokevirtual 17, 3, 4, [(11, 100, 0, "", "")]), (192, .if_icmp .eq 838, 3, 0, []), (195, .iconst 0, 1, 0, []), (196, .ireturn, 1, 1, []), (197, .aload_n 1, 1, 0, []), (198, .aload_n 0, 1, 0, []), (199, .iload_n 3, 1, 0, []), (200, .iconst 1, 1, 0, []), (201, .iadd, 1, 0, []), (202, .iaload, 1, 0, []), (203, .aload_n 0, 1, 0, []), (204, .iload_n 3, 1, 0, []), (205, .iconst 2, 1, 0, []), (206, .iadd, 1, 0, []), (207, .iaload, 1, 0, [])]
def tb_L_law_2 : List (Nat × zO) := [(208, .invokevirtual 18, 3, 2, [(10, 53, 0, "", "")]), (211, .aload_n 2, 1, 0, []), (212, .aload_n 0, 1, 0, []), (213, .iload_n 3, 1, 0, []), (214, .iconst 1, 1, 0, []), (215, .iadd, 1, 0, []), (216, .iaload, 1, 0, []), (217, .aload_n 0, 1, 0, []), (218, .iload_n 3, 1, 0, []), (219, .iconst 2, 1, 0, []), (220, .iadd, 1, 0, []), (221, .iaload, 1, 0, []), (222, .invokevirtual 22, 3, 2, [(11, 102, 0, "", "")]), (225, .if_icmp .eq 805, 3, 0, []), (228, .iconst 0, 1, 0, []), (229, .ireturn, 1, 1, []), (230, .aload_n 1, 1, 0, []), (231, .aload_n 0, 1, 0, []), (232, .iload_n 3, 1, 0, []), (233, .iconst 1, 1, 0, []), (234, .iadd, 1, 0, []), (235, .iaload, 1, 0, []), (236, .aload_n 0, 1, 0, []), (237, .iload_n 3, 1, 0, []), (238, .iconst 2, 1, 0, []), (239, .iadd, 1, 0, []), (240, .iaload, 1, 0, []), (241, .ifCond .eq 7, 3, 0, []), (244, .iconst 1, 1, 0, []), (245, .goto 4, 3, 0, []), (248, .iconst 0, 1, 0, []), (249, .invokevirtual 23, 3, 2, [(10, 54, 0, "", "")]), (252, .aload_n 2, 1, 0, []), (253, .aload_n 0, 1, 0, []), (254, .iload_n 3, 1, 0, []), (255, .iconst 1, 1, 0, []), (256, .iadd, 1, 0, []), (257, .iaload, 1, 0, []), (258, .aload_n 0, 1, 0, []), (259, .iload_n 3, 1, 0, [])]
def tb_L_law_3 : List (Nat × zO) := [(260, .iconst 2, 1, 0, []), (261, .iadd, 1, 0, []), (262, .iaload, 1, 0, []), (263, .ifCond .eq 7, 3, 0, []), (266, .iconst 1, 1, 0, []), (267, .goto 4, 3, 0, []), (270, .iconst 0, 1, 0, []), (271, .invokevirtual 27, 3, 2, [(11, 103, 0, "", "")]), (274, .if_icmp .eq 756, 3, 0, []), (277, .iconst 0, 1, 0, []), (278, .ireturn, 1, 1, []), (279, .aload_n 1, 1, 0, []), (280, .aload_n 0, 1, 0, []), (281, .iload_n 3, 1, 0, []), (282, .iconst 1, 1, 0, []), (283, .iadd, 1, 0, []), (284, .iaload, 1, 0, []), (285, .aload_n 0, 1, 0, []), (286, .iload_n 3, 1, 0, []), (287, .iconst 2, 1, 0, []), (288, .iadd, 1, 0, []), (289, .iaload, 1, 0, []), (290, .ifCond .eq 7, 3, 0, []), (293, .iconst 1, 1, 0, []), (294, .goto 4, 3, 0, []), (297, .iconst 0, 1, 0, []), (298, .invokevirtual 28, 3, 2, [(10, 55, 0, "", "")]), (301, .aload_n 2, 1, 0, []), (302, .aload_n 0, 1, 0, []), (303, .iload_n 3, 1, 0, []), (304, .iconst 1, 1, 0, []), (305, .iadd, 1, 0, []), (306, .iaload, 1, 0, []), (307, .aload_n 0, 1, 0, []), (308, .iload_n 3, 1, 0, []), (309, .iconst 2, 1, 0, []), (310, .iadd, 1, 0, []), (311, .iaload, 1, 0, []), (312, .ifCond .eq 7, 3, 0, []), (315, .iconst 1, 1, 0, [])]
def tb_L_law_4 : List (Nat × zO) := [(316, .goto 4, 3, 0, []), (319, .iconst 0, 1, 0, []), (320, .invokevirtual 31, 3, 2, [(11, 104, 0, "", "")]), (323, .if_icmp .eq 707, 3, 0, []), (326, .iconst 0, 1, 0, []), (327, .ireturn, 1, 1, []), (328, .aload_n 1, 1, 0, []), (329, .aload_n 0, 1, 0, []), (330, .iload_n 3, 1, 0, []), (331, .iconst 1, 1, 0, []), (332, .iadd, 1, 0, []), (333, .iaload, 1, 0, []), (334, .aload_n 0, 1, 0, []), (335, .iload_n 3, 1, 0, []), (336, .iconst 2, 1, 0, []), (337, .iadd, 1, 0, []), (338, .iaload, 1, 0, []), (339, .aload_n 0, 1, 0, []), (340, .iload_n 3, 1, 0, []), (341, .iconst 3, 1, 0, []), (342, .iadd, 1, 0, []), (343, .iaload, 1, 0, []), (344, .aload_n 0, 1, 0, []), (345, .iload_n 3, 1, 0, []), (346, .iconst 4, 1, 0, []), (347, .iadd, 1, 0, []), (348, .iaload, 1, 0, []), (349, .aload_n 0, 1, 0, []), (350, .iload_n 3, 1, 0, []), (351, .iconst 5, 1, 0, []), (352, .iadd, 1, 0, []), (353, .iaload, 1, 0, []), (354, .invokevirtual 32, 3, 5, [(10, 56, 0, "", "")]), (357, .aload_n 2, 1, 0, []), (358, .aload_n 0, 1, 0, []), (359, .iload_n 3, 1, 0, []), (360, .iconst 1, 1, 0, []), (361, .iadd, 1, 0, []), (362, .iaload, 1, 0, []), (363, .aload_n 0, 1, 0, [])]
def tb_L_law_5 : List (Nat × zO) := [(364, .iload_n 3, 1, 0, []), (365, .iconst 2, 1, 0, []), (366, .iadd, 1, 0, []), (367, .iaload, 1, 0, []), (368, .aload_n 0, 1, 0, []), (369, .iload_n 3, 1, 0, []), (370, .iconst 3, 1, 0, []), (371, .iadd, 1, 0, []), (372, .iaload, 1, 0, []), (373, .aload_n 0, 1, 0, []), (374, .iload_n 3, 1, 0, []), (375, .iconst 4, 1, 0, []), (376, .iadd, 1, 0, []), (377, .iaload, 1, 0, []), (378, .aload_n 0, 1, 0, []), (379, .iload_n 3, 1, 0, []), (380, .iconst 5, 1, 0, []), (381, .iadd, 1, 0, []), (382, .iaload, 1, 0, []), (383, .invokevirtual 36, 3, 5, [(11, 111, 0, "", "")]), (386, .if_icmp .eq 644, 3, 0, []), (389, .iconst 0, 1, 0, []), (390, .ireturn, 1, 1, []), (391, .aload_n 1, 1, 0, []), (392, .aload_n 0, 1, 0, []), (393, .iload_n 3, 1, 0, []), (394, .iconst 1, 1, 0, []), (395, .iadd, 1, 0, []), (396, .iaload, 1, 0, []), (397, .aload_n 0, 1, 0, []), (398, .iload_n 3, 1, 0, []), (399, .iconst 2, 1, 0, []), (400, .iadd, 1, 0, []), (401, .iaload, 1, 0, []), (402, .aload_n 0, 1, 0, []), (403, .iload_n 3, 1, 0, []), (404, .iconst 3, 1, 0, []), (405, .iadd, 1, 0, []), (406, .iaload, 1, 0, []), (407, .aload_n 0, 1, 0, [])]
def tb_L_law_6 : List (Nat × zO) := [(408, .iload_n 3, 1, 0, []), (409, .iconst 4, 1, 0, []), (410, .iadd, 1, 0, []), (411, .iaload, 1, 0, []), (412, .invokevirtual 37, 3, 4, [(10, 57, 0, "", "")]), (415, .aload_n 2, 1, 0, []), (416, .aload_n 0, 1, 0, []), (417, .iload_n 3, 1, 0, []), (418, .iconst 1, 1, 0, []), (419, .iadd, 1, 0, []), (420, .iaload, 1, 0, []), (421, .aload_n 0, 1, 0, []), (422, .iload_n 3, 1, 0, []), (423, .iconst 2, 1, 0, []), (424, .iadd, 1, 0, []), (425, .iaload, 1, 0, []), (426, .aload_n 0, 1, 0, []), (427, .iload_n 3, 1, 0, []), (428, .iconst 3, 1, 0, []), (429, .iadd, 1, 0, []), (430, .iaload, 1, 0, []), (431, .aload_n 0, 1, 0, []), (432, .iload_n 3, 1, 0, []), (433, .iconst 4, 1, 0, []), (434, .iadd, 1, 0, []), (435, .iaload, 1, 0, []), (436, .invokevirtual 40, 3, 4, [(11, 112, 0, "", "")]), (439, .if_icmp .eq 591, 3, 0, []), (442, .iconst 0, 1, 0, []), (443, .ireturn, 1, 1, []), (444, .aload_n 1, 1, 0, []), (445, .aload_n 0, 1, 0, []), (446, .iload_n 3, 1, 0, []), (447, .iconst 1, 1, 0, []), (448, .iadd, 1, 0, []), (449, .iaload, 1, 0, []), (450, .aload_n 0, 1, 0, []), (451, .iload_n 3, 1, 0, []), (452, .iconst 2, 1, 0, []), (453, .iadd, 1, 0, [])]
def tb_L_law_7 : List (Nat × zO) := [(454, .iaload, 1, 0, []), (455, .invokevirtual 41, 3, 2, [(10, 60, 0, "", "")]), (458, .aload_n 2, 1, 0, []), (459, .aload_n 0, 1, 0, []), (460, .iload_n 3, 1, 0, []), (461, .iconst 1, 1, 0, []), (462, .iadd, 1, 0, []), (463, .iaload, 1, 0, []), (464, .aload_n 0, 1, 0, []), (465, .iload_n 3, 1, 0, []), (466, .iconst 2, 1, 0, []), (467, .iadd, 1, 0, []), (468, .iaload, 1, 0, []), (469, .invokevirtual 44, 3, 2, [(11, 116, 0, "", "")]), (472, .if_icmp .eq 558, 3, 0, []), (475, .iconst 0, 1, 0, []), (476, .ireturn, 1, 1, []), (477, .aload_n 1, 1, 0, []), (478, .aload_n 0, 1, 0, []), (479, .iload_n 3, 1, 0, []), (480, .iconst 1, 1, 0, []), (481, .iadd, 1, 0, []), (482, .iaload, 1, 0, []), (483, .aload_n 0, 1, 0, []), (484, .iload_n 3, 1, 0, []), (485, .iconst 2, 1, 0, []), (486, .iadd, 1, 0, []), (487, .iaload, 1, 0, []), (488, .aload_n 0, 1, 0, []), (489, .iload_n 3, 1, 0, []), (490, .iconst 3, 1, 0, []), (491, .iadd, 1, 0, []), (492, .iaload, 1, 0, []), (493, .aload_n 0, 1, 0, []), (494, .iload_n 3, 1, 0, []), (495, .iconst 4, 1, 0, []), (496, .iadd, 1, 0, []), (497, .iaload, 1, 0, []), (498, .invokevirtual 45, 3, 4, [(10, 61, 0, "", "")]), (501, .aload_n 2, 1, 0, [])]
def tb_L_law_8 : List (Nat × zO) := [(502, .aload_n 0, 1, 0, []), (503, .iload_n 3, 1, 0, []), (504, .iconst 1, 1, 0, []), (505, .iadd, 1, 0, []), (506, .iaload, 1, 0, []), (507, .aload_n 0, 1, 0, []), (508, .iload_n 3, 1, 0, []), (509, .iconst 2, 1, 0, []), (510, .iadd, 1, 0, []), (511, .iaload, 1, 0, []), (512, .aload_n 0, 1, 0, []), (513, .iload_n 3, 1, 0, []), (514, .iconst 3, 1, 0, []), (515, .iadd, 1, 0, []), (516, .iaload, 1, 0, []), (517, .aload_n 0, 1, 0, []), (518, .iload_n 3, 1, 0, []), (519, .iconst 4, 1, 0, []), (520, .iadd, 1, 0, []), (521, .iaload, 1, 0, []), (522, .invokevirtual 48, 3, 4, [(11, 117, 0, "", "")]), (525, .if_icmp .eq 505, 3, 0, []), (528, .iconst 0, 1, 0, []), (529, .ireturn, 1, 1, []), (530, .aload_n 1, 1, 0, []), (531, .aload_n 0, 1, 0, []), (532, .iload_n 3, 1, 0, []), (533, .iconst 1, 1, 0, []), (534, .iadd, 1, 0, []), (535, .iaload, 1, 0, []), (536, .invokevirtual 49, 3, 1, [(10, 62, 0, "", "")]), (539, .aload_n 2, 1, 0, []), (540, .aload_n 0, 1, 0, []), (541, .iload_n 3, 1, 0, []), (542, .iconst 1, 1, 0, []), (543, .iadd, 1, 0, []), (544, .iaload, 1, 0, []), (545, .invokevirtual 53, 3, 1, [(11, 121, 0, "", "")]), (548, .if_icmp .eq 482, 3, 0, []), (551, .iconst 0, 1, 0, [])]
def tb_L_law_9 : List (Nat × zO) := [(552, .ireturn, 1, 1, []), (553, .aload_n 1, 1, 0, []), (554, .aload_n 0, 1, 0, []), (555, .iload_n 3, 1, 0, []), (556, .iconst 1, 1, 0, []), (557, .iadd, 1, 0, []), (558, .iaload, 1, 0, []), (559, .aload_n 0, 1, 0, []), (560, .iload_n 3, 1, 0, []), (561, .iconst 2, 1, 0, []), (562, .iadd, 1, 0, []), (563, .iaload, 1, 0, []), (564, .aload_n 0, 1, 0, []), (565, .iload_n 3, 1, 0, []), (566, .iconst 3, 1, 0, []), (567, .iadd, 1, 0, []), (568, .iaload, 1, 0, []), (569, .invokevirtual 54, 3, 3, [(10, 63, 0, "", "")]), (572, .aload_n 2, 1, 0, []), (573, .aload_n 0, 1, 0, []), (574, .iload_n 3, 1, 0, []), (575, .iconst 1, 1, 0, []), (576, .iadd, 1, 0, []), (577, .iaload, 1, 0, []), (578, .aload_n 0, 1, 0, []), (579, .iload_n 3, 1, 0, []), (580, .iconst 2, 1, 0, []), (581, .iadd, 1, 0, []), (582, .iaload, 1, 0, []), (583, .aload_n 0, 1, 0, []), (584, .iload_n 3, 1, 0, []), (585, .iconst 3, 1, 0, []), (586, .iadd, 1, 0, []), (587, .iaload, 1, 0, []), (588, .invokevirtual 58, 3, 3, [(11, 122, 0, "", "")]), (591, .lcmp, 1, 0, []), (592, .ifCond .eq 438, 3, 0, []), (595, .iconst 0, 1, 0, []), (596, .ireturn, 1, 1, []), (597, .aload_n 1, 1, 0, [])]
def tb_L_law_10 : List (Nat × zO) := [(598, .aload_n 0, 1, 0, []), (599, .iload_n 3, 1, 0, []), (600, .iconst 1, 1, 0, []), (601, .iadd, 1, 0, []), (602, .iaload, 1, 0, []), (603, .aload_n 0, 1, 0, []), (604, .iload_n 3, 1, 0, []), (605, .iconst 2, 1, 0, []), (606, .iadd, 1, 0, []), (607, .iaload, 1, 0, []), (608, .aload_n 0, 1, 0, []), (609, .iload_n 3, 1, 0, []), (610, .iconst 3, 1, 0, []), (611, .iadd, 1, 0, []), (612, .iaload, 1, 0, []), (613, .invokevirtual 59, 3, 3, [(10, 64, 0, "", "")]), (616, .aload_n 2, 1, 0, []), (617, .aload_n 0, 1, 0, []), (618, .iload_n 3, 1, 0, []), (619, .iconst 1, 1, 0, []), (620, .iadd, 1, 0, []), (621, .iaload, 1, 0, []), (622, .aload_n 0, 1, 0, []), (623, .iload_n 3, 1, 0, []), (624, .iconst 2, 1, 0, []), (625, .iadd, 1, 0, []), (626, .iaload, 1, 0, []), (627, .aload_n 0, 1, 0, []), (628, .iload_n 3, 1, 0, []), (629, .iconst 3, 1, 0, []), (630, .iadd, 1, 0, []), (631, .iaload, 1, 0, []), (632, .invokevirtual 63, 3, 3, [(11, 123, 0, "", "")]), (635, .if_icmp .eq 395, 3, 0, []), (638, .iconst 0, 1, 0, []), (639, .ireturn, 1, 1, []), (640, .aload_n 1, 1, 0, []), (641, .aload_n 0, 1, 0, []), (642, .iload_n 3, 1, 0, []), (643, .iconst 1, 1, 0, [])]
def tb_L_law_11 : List (Nat × zO) := [(644, .iadd, 1, 0, []), (645, .iaload, 1, 0, []), (646, .invokevirtual 64, 3, 1, [(10, 65, 0, "", "")]), (649, .aload_n 2, 1, 0, []), (650, .aload_n 0, 1, 0, []), (651, .iload_n 3, 1, 0, []), (652, .iconst 1, 1, 0, []), (653, .iadd, 1, 0, []), (654, .iaload, 1, 0, []), (655, .invokevirtual 67, 3, 1, [(11, 124, 0, "", "")]), (658, .if_icmp .eq 372, 3, 0, []), (661, .iconst 0, 1, 0, []), (662, .ireturn, 1, 1, []), (663, .aload_n 1, 1, 0, []), (664, .aload_n 0, 1, 0, []), (665, .iload_n 3, 1, 0, []), (666, .iconst 1, 1, 0, []), (667, .iadd, 1, 0, []), (668, .iaload, 1, 0, []), (669, .invokevirtual 68, 3, 1, [(10, 66, 0, "", "")]), (672, .aload_n 2, 1, 0, []), (673, .aload_n 0, 1, 0, []), (674, .iload_n 3, 1, 0, []), (675, .iconst 1, 1, 0, []), (676, .iadd, 1, 0, []), (677, .iaload, 1, 0, []), (678, .invokevirtual 71, 3, 1, [(11, 126, 0, "", "")]), (681, .if_icmp .eq 349, 3, 0, []), (684, .iconst 0, 1, 0, []), (685, .ireturn, 1, 1, []), (686, .aload_n 1, 1, 0, []), (687, .aload_n 0, 1, 0, []), (688, .iload_n 3, 1, 0, []), (689, .iconst 1, 1, 0, []), (690, .iadd, 1, 0, []), (691, .iaload, 1, 0, []), (692, .aload_n 0, 1, 0, []), (693, .iload_n 3, 1, 0, []), (694, .iconst 2, 1, 0, []), (695, .iadd, 1, 0, [])]
def tb_L_law_12 : List (Nat × zO) := [(696, .iaload, 1, 0, []), (697, .aload_n 0, 1, 0, []), (698, .iload_n 3, 1, 0, []), (699, .iconst 3, 1, 0, []), (700, .iadd, 1, 0, []), (701, .iaload, 1, 0, []), (702, .invokevirtual 72, 3, 3, [(10, 68, 0, "", "")]), (705, .aload_n 2, 1, 0, []), (706, .aload_n 0, 1, 0, []), (707, .iload_n 3, 1, 0, []), (708, .iconst 1, 1, 0, []), (709, .iadd, 1, 0, []), (710, .iaload, 1, 0, []), (711, .aload_n 0, 1, 0, []), (712, .iload_n 3, 1, 0, []), (713, .iconst 2, 1, 0, []), (714, .iadd, 1, 0, []), (715, .iaload, 1, 0, []), (716, .aload_n 0, 1, 0, []), (717, .iload_n 3, 1, 0, []), (718, .iconst 3, 1, 0, []), (719, .iadd, 1, 0, []), (720, .iaload, 1, 0, []), (721, .invokevirtual 75, 3, 3, [(11, 128, 0, "", "")]), (724, .if_icmp .eq 306, 3, 0, []), (727, .iconst 0, 1, 0, []), (728, .ireturn, 1, 1, []), (729, .aload_n 1, 1, 0, []), (730, .aload_n 0, 1, 0, []), (731, .iload_n 3, 1, 0, []), (732, .iconst 1, 1, 0, []), (733, .iadd, 1, 0, []), (734, .iaload, 1, 0, []), (735, .invokevirtual 76, 3, 1, [(10, 69, 0, "", "")]), (738, .aload_n 2, 1, 0, []), (739, .aload_n 0, 1, 0, []), (740, .iload_n 3, 1, 0, []), (741, .iconst 1, 1, 0, []), (742, .iadd, 1, 0, []), (743, .iaload, 1, 0, [])]
def tb_L_law_13 : List (Nat × zO) := [(744, .invokevirtual 79, 3, 1, [(11, 129, 0, "", "")]), (747, .if_icmp .eq 283, 3, 0, []), (750, .iconst 0, 1, 0, []), (751, .ireturn, 1, 1, []), (752, .aload_n 1, 1, 0, []), (753, .aload_n 0, 1, 0, []), (754, .iload_n 3, 1, 0, []), (755, .iconst 1, 1, 0, []), (756, .iadd, 1, 0, []), (757, .iaload, 1, 0, []), (758, .aload_n 0, 1, 0, []), (759, .iload_n 3, 1, 0, []), (760, .iconst 2, 1, 0, []), (761, .iadd, 1, 0, []), (762, .iaload, 1, 0, []), (763, .aload_n 0, 1, 0, []), (764, .iload_n 3, 1, 0, []), (765, .iconst 3, 1, 0, []), (766, .iadd, 1, 0, []), (767, .iaload, 1, 0, []), (768, .invokevirtual 80, 3, 3, [(10, 70, 0, "", "")]), (771, .aload_n 2, 1, 0, []), (772, .aload_n 0, 1, 0, []), (773, .iload_n 3, 1, 0, []), (774, .iconst 1, 1, 0, []), (775, .iadd, 1, 0, []), (776, .iaload, 1, 0, []), (777, .aload_n 0, 1, 0, []), (778, .iload_n 3, 1, 0, []), (779, .iconst 2, 1, 0, []), (780, .iadd, 1, 0, []), (781, .iaload, 1, 0, []), (782, .aload_n 0, 1, 0, []), (783, .iload_n 3, 1, 0, []), (784, .iconst 3, 1, 0, []), (785, .iadd, 1, 0, []), (786, .iaload, 1, 0, []), (787, .invokevirtual 83, 3, 3, [(11, 131, 0, "", "")]), (790, .if_icmp .eq 240, 3, 0, []), (793, .iconst 0, 1, 0, [])]
def tb_L_law_14 : List (Nat × zO) := [(794, .ireturn, 1, 1, []), (795, .aload_n 1, 1, 0, []), (796, .aload_n 0, 1, 0, []), (797, .iload_n 3, 1, 0, []), (798, .iconst 1, 1, 0, []), (799, .iadd, 1, 0, []), (800, .iaload, 1, 0, []), (801, .aload_n 0, 1, 0, []), (802, .iload_n 3, 1, 0, []), (803, .iconst 2, 1, 0, []), (804, .iadd, 1, 0, []), (805, .iaload, 1, 0, []), (806, .aload_n 0, 1, 0, []), (807, .iload_n 3, 1, 0, []), (808, .iconst 3, 1, 0, []), (809, .iadd, 1, 0, []), (810, .iaload, 1, 0, []), (811, .invokevirtual 84, 3, 3, [(10, 71, 0, "", "")]), (814, .aload_n 2, 1, 0, []), (815, .aload_n 0, 1, 0, []), (816, .iload_n 3, 1, 0, []), (817, .iconst 1, 1, 0, []), (818, .iadd, 1, 0, []), (819, .iaload, 1, 0, []), (820, .aload_n 0, 1, 0, []), (821, .iload_n 3, 1, 0, []), (822, .iconst 2, 1, 0, []), (823, .iadd, 1, 0, []), (824, .iaload, 1, 0, []), (825, .aload_n 0, 1, 0, []), (826, .iload_n 3, 1, 0, []), (827, .iconst 3, 1, 0, []), (828, .iadd, 1, 0, []), (829, .iaload, 1, 0, []), (830, .invokevirtual 87, 3, 3, [(11, 132, 0, "", "")]), (833, .lcmp, 1, 0, []), (834, .ifCond .eq 196, 3, 0, []), (837, .iconst 0, 1, 0, []), (838, .ireturn, 1, 1, []), (839, .aload_n 1, 1, 0, [])]
def tb_L_law_15 : List (Nat × zO) := [(840, .aload_n 0, 1, 0, []), (841, .iload_n 3, 1, 0, []), (842, .iconst 1, 1, 0, []), (843, .iadd, 1, 0, []), (844, .iaload, 1, 0, []), (845, .aload_n 0, 1, 0, []), (846, .iload_n 3, 1, 0, []), (847, .iconst 2, 1, 0, []), (848, .iadd, 1, 0, []), (849, .iaload, 1, 0, []), (850, .aload_n 0, 1, 0, []), (851, .iload_n 3, 1, 0, []), (852, .iconst 3, 1, 0, []), (853, .iadd, 1, 0, []), (854, .iaload, 1, 0, []), (855, .aload_n 0, 1, 0, []), (856, .iload_n 3, 1, 0, []), (857, .iconst 4, 1, 0, []), (858, .iadd, 1, 0, []), (859, .iaload, 1, 0, []), (860, .aload_n 0, 1, 0, []), (861, .iload_n 3, 1, 0, []), (862, .iconst 5, 1, 0, []), (863, .iadd, 1, 0, []), (864, .iaload, 1, 0, []), (865, .invokevirtual 88, 3, 5, [(10, 72, 0, "", "")]), (868, .aload_n 2, 1, 0, []), (869, .aload_n 0, 1, 0, []), (870, .iload_n 3, 1, 0, []), (871, .iconst 1, 1, 0, []), (872, .iadd, 1, 0, []), (873, .iaload, 1, 0, []), (874, .aload_n 0, 1, 0, []), (875, .iload_n 3, 1, 0, []), (876, .iconst 2, 1, 0, []), (877, .iadd, 1, 0, []), (878, .iaload, 1, 0, []), (879, .aload_n 0, 1, 0, []), (880, .iload_n 3, 1, 0, []), (881, .iconst 3, 1, 0, [])]
def tb_L_law_16 : List (Nat × zO) := [(882, .iadd, 1, 0, []), (883, .iaload, 1, 0, []), (884, .aload_n 0, 1, 0, []), (885, .iload_n 3, 1, 0, []), (886, .iconst 4, 1, 0, []), (887, .iadd, 1, 0, []), (888, .iaload, 1, 0, []), (889, .aload_n 0, 1, 0, []), (890, .iload_n 3, 1, 0, []), (891, .iconst 5, 1, 0, []), (892, .iadd, 1, 0, []), (893, .iaload, 1, 0, []), (894, .invokevirtual 91, 3, 5, [(11, 134, 0, "", "")]), (897, .if_icmp .eq 133, 3, 0, []), (900, .iconst 0, 1, 0, []), (901, .ireturn, 1, 1, []), (902, .aload_n 1, 1, 0, []), (903, .aload_n 0, 1, 0, []), (904, .iload_n 3, 1, 0, []), (905, .iconst 1, 1, 0, []), (906, .iadd, 1, 0, []), (907, .iaload, 1, 0, []), (908, .invokevirtual 92, 3, 1, [(10, 73, 0, "", "")]), (911, .aload_n 2, 1, 0, []), (912, .aload_n 0, 1, 0, []), (913, .iload_n 3, 1, 0, []), (914, .iconst 1, 1, 0, []), (915, .iadd, 1, 0, []), (916, .iaload, 1, 0, []), (917, .invokevirtual 95, 3, 1, [(11, 136, 0, "", "")]), (920, .if_icmp .eq 110, 3, 0, []), (923, .iconst 0, 1, 0, []), (924, .ireturn, 1, 1, []), (925, .aload_n 1, 1, 0, []), (926, .aload_n 0, 1, 0, []), (927, .iload_n 3, 1, 0, []), (928, .iconst 1, 1, 0, []), (929, .iadd, 1, 0, []), (930, .iaload, 1, 0, []), (931, .invokevirtual 96, 3, 1, [(10, 74, 0, "", "")])]
def tb_L_law_17 : List (Nat × zO) := [(934, .aload_n 2, 1, 0, []), (935, .aload_n 0, 1, 0, []), (936, .iload_n 3, 1, 0, []), (937, .iconst 1, 1, 0, []), (938, .iadd, 1, 0, []), (939, .iaload, 1, 0, []), (940, .invokevirtual 99, 3, 1, [(11, 137, 0, "", "")]), (943, .if_icmp .eq 87, 3, 0, []), (946, .iconst 0, 1, 0, []), (947, .ireturn, 1, 1, []), (948, .aload_n 1, 1, 0, []), (949, .aload_n 0, 1, 0, []), (950, .iload_n 3, 1, 0, []), (951, .iconst 1, 1, 0, []), (952, .iadd, 1, 0, []), (953, .iaload, 1, 0, []), (954, .aload_n 0, 1, 0, []), (955, .iload_n 3, 1, 0, []), (956, .iconst 2, 1, 0, []), (957, .iadd, 1, 0, []), (958, .iaload, 1, 0, []), (959, .invokevirtual 100, 3, 2, [(10, 75, 0, "", "")]), (962, .aload_n 2, 1, 0, []), (963, .aload_n 0, 1, 0, []), (964, .iload_n 3, 1, 0, []), (965, .iconst 1, 1, 0, []), (966, .iadd, 1, 0, []), (967, .iaload, 1, 0, []), (968, .aload_n 0, 1, 0, []), (969, .iload_n 3, 1, 0, []), (970, .iconst 2, 1, 0, []), (971, .iadd, 1, 0, []), (972, .iaload, 1, 0, []), (973, .invokevirtual 103, 3, 2, [(11, 138, 0, "", "")]), (976, .if_icmp .eq 54, 3, 0, []), (979, .iconst 0, 1, 0, []), (980, .ireturn, 1, 1, []), (981, .aload_n 1, 1, 0, []), (982, .invokevirtual 104, 3, 0, [(10, 76, 0, "", "")]), (985, .aload_n 2, 1, 0, [])]
def tb_L_law_18 : List (Nat × zO) := [(986, .invokevirtual 108, 3, 0, [(11, 139, 0, "", "")]), (989, .if_icmp .eq 41, 3, 0, []), (992, .iconst 0, 1, 0, []), (993, .ireturn, 1, 1, []), (994, .aload_n 1, 1, 0, []), (995, .invokevirtual 109, 3, 0, [(10, 77, 0, "", "")]), (998, .aload_n 2, 1, 0, []), (999, .invokevirtual 112, 3, 0, [(11, 140, 0, "", "")]), (1002, .if_icmp .eq 28, 3, 0, []), (1005, .iconst 0, 1, 0, []), (1006, .ireturn, 1, 1, []), (1007, .aload_n 1, 1, 0, []), (1008, .aload_n 0, 1, 0, []), (1009, .iload_n 3, 1, 0, []), (1010, .iconst 1, 1, 0, []), (1011, .iadd, 1, 0, []), (1012, .iaload, 1, 0, []), (1013, .invokevirtual 113, 3, 1, [(10, 78, 0, "", "")]), (1016, .aload_n 2, 1, 0, []), (1017, .aload_n 0, 1, 0, []), (1018, .iload_n 3, 1, 0, []), (1019, .iconst 1, 1, 0, []), (1020, .iadd, 1, 0, []), (1021, .iaload, 1, 0, []), (1022, .invokevirtual 116, 3, 1, [(11, 141, 0, "", "")]), (1025, .if_icmp .eq 5, 3, 0, []), (1028, .iconst 0, 1, 0, []), (1029, .ireturn, 1, 1, []), (1030, .iinc 3 6, 3, 0, []), (1033, .goto (-1015), 3, 0, []), (1036, .iconst 1, 1, 0, []), (1037, .ireturn, 1, 1, [])]
def tb_L_law : List (Nat × zO) := tb_L_law_0 ++ tb_L_law_1 ++ tb_L_law_2 ++ tb_L_law_3 ++ tb_L_law_4 ++ tb_L_law_5 ++ tb_L_law_6 ++ tb_L_law_7 ++ tb_L_law_8 ++ tb_L_law_9 ++ tb_L_law_10 ++ tb_L_law_11 ++ tb_L_law_12 ++ tb_L_law_13 ++ tb_L_law_14 ++ tb_L_law_15 ++ tb_L_law_16 ++ tb_L_law_17 ++ tb_L_law_18
def zMl : List zQ := [
  (yX0_init, cX0_init, 6, 5, none, tb_X0_init),
  (yX0_kind, cX0_kind, 1, 0, (some .int), tb_X0_kind),
  (yX0_isAnswered, cX0_isAnswered, 3, 2, (some .boolean), tb_X0_isAnswered),
  (yX0_oddsUnanswered, cX0_oddsUnanswered, 2, 1, (some .int), tb_X0_oddsUnanswered),
  (yX0_telling, cX0_telling, 2, 1, (some .int), tb_X0_telling),
  (yX1_init, cX1_init, 1, 0, none, tb_X1_init),
  (yX1_taleAt, cX1_taleAt, 2, 1, (some (.object "CorpseTales$Tale")), tb_X1_taleAt),
  (yX1_firstFault, cX1_firstFault, 4, 3, (some .int), tb_X1_firstFault),
  (yX1_goesOn, cX1_goesOn, 2, 2, (some .boolean), tb_X1_goesOn),
  (yX1_grow, cX1_grow, 5, 3, none, tb_X1_grow),
  (yX1_newTale, cX1_newTale, 8, 3, (some (.object "CorpseTales$Tale")), tb_X1_newTale),
  (yX2_init, cX2_init, 1, 0, none, tb_X2_init),
  (yX2_farByBestPlay, cX2_farByBestPlay, 4, 3, (some .int), tb_X2_farByBestPlay),
  (yX2_leastFar, cX2_leastFar, 7, 4, (some .int), tb_X2_leastFar),
  (yX2_mostFar, cX2_mostFar, 9, 5, (some .int), tb_X2_mostFar),
  (yX3_init, cX3_init, 1, 0, none, tb_X3_init),
  (yX3_seek, cX3_seek, 4, 3, none, tb_X3_seek),
  (yX3_goOn, cX3_goOn, 7, 3, none, tb_X3_goOn),
  (yX4_init, cX4_init, 1, 0, none, tb_X4_init),
  (yX4_begin, cX4_begin, 4, 3, none, tb_X4_begin),
  (yX4_takeUp, cX4_takeUp, 2, 1, none, tb_X4_takeUp),
  (yX4_hear, cX4_hear, 3, 2, none, tb_X4_hear),
  (yX4_learn, cX4_learn, 2, 1, none, tb_X4_learn),
  (yX4_walk, cX4_walk, 2, 1, none, tb_X4_walk),
  (yX5_init, cX5_init, 6, 5, none, tb_X5_init),
  (yX5_kind, cX5_kind, 1, 0, (some .int), tb_X5_kind),
  (yX5_isAnswered, cX5_isAnswered, 3, 2, (some .boolean), tb_X5_isAnswered),
  (yX5_telling, cX5_telling, 2, 1, (some .int), tb_X5_telling),
  (yX5_whispering, cX5_whispering, 2, 1, (some .int), tb_X5_whispering),
  (yX6_init, cX6_init, 1, 0, none, tb_X6_init),
  (yX6_add, cX6_add, 4, 3, (some .int), tb_X6_add),
  (yX7_init, cX7_init, 1, 0, none, tb_X7_init),
  (yX7_isNothing, cX7_isNothing, 1, 0, (some .boolean), tb_X7_isNothing),
  (yX7_clear, cX7_clear, 1, 0, none, tb_X7_clear),
  (yX7_renew, cX7_renew, 3, 2, none, tb_X7_renew),
  (yX7_hasCell, cX7_hasCell, 2, 1, (some .boolean), tb_X7_hasCell),
  (yX7_hasCells, cX7_hasCells, 3, 2, (some .boolean), tb_X7_hasCells),
  (yX7_faultOfLane, cX7_faultOfLane, 2, 1, (some .int), tb_X7_faultOfLane),
  (yX7_faultOfCells, cX7_faultOfCells, 5, 3, (some .int), tb_X7_faultOfCells),
  (yX7_read, cX7_read, 2, 1, (some .int), tb_X7_read),
  (yX7_write, cX7_write, 3, 2, none, tb_X7_write),
  (yX8_init, cX8_init, 6, 5, none, tb_X8_init),
  (yX8_kind, cX8_kind, 1, 0, (some .int), tb_X8_kind),
  (yX8_isAnswered, cX8_isAnswered, 3, 2, (some .boolean), tb_X8_isAnswered),
  (yX8_hasEitherNeed, cX8_hasEitherNeed, 2, 1, (some .boolean), tb_X8_hasEitherNeed),
  (yX8_oddsUnanswered, cX8_oddsUnanswered, 3, 1, (some .int), tb_X8_oddsUnanswered),
  (yX8_telling, cX8_telling, 2, 1, (some .int), tb_X8_telling),
  (yX8_plainTelling, cX8_plainTelling, 2, 1, (some .int), tb_X8_plainTelling),
  (yX8_whispering, cX8_whispering, 2, 1, (some .int), tb_X8_whispering),
  (yX9_init, cX9_init, 1, 0, none, tb_X9_init),
  (yX9_leave, cX9_leave, 2, 1, none, tb_X9_leave),
  (yX10_init, cX10_init, 2, 0, none, tb_X10_init),
  (yX10_forest, cX10_forest, 8, 4, (some .int), tb_X10_forest),
  (yX10_ofTale, cX10_ofTale, 4, 2, (some .int), tb_X10_ofTale),
  (yX10_know, cX10_know, 3, 2, (some .int), tb_X10_know),
  (yX10_believe, cX10_believe, 3, 2, (some .int), tb_X10_believe),
  (yX10_night, cX10_night, 7, 5, (some .int), tb_X10_night),
  (yX10_comes, cX10_comes, 6, 4, (some .int), tb_X10_comes),
  (yX10_takeOrder, cX10_takeOrder, 9, 5, (some .int), tb_X10_takeOrder),
  (yX10_passNight, cX10_passNight, 3, 1, none, tb_X10_passNight),
  (yX10_never, cX10_never, 3, 2, (some .int), tb_X10_never),
  (yX10_study, cX10_study, 10, 4, (some .int), tb_X10_study),
  (yX10_game, cX10_game, 2, 1, (some .int), tb_X10_game),
  (yX10_porter, cX10_porter, 7, 3, (some .long), tb_X10_porter),
  (yX10_reading, cX10_reading, 4, 3, (some .int), tb_X10_reading),
  (yX10_back, cX10_back, 2, 1, (some .int), tb_X10_back),
  (yX10_fits, cX10_fits, 6, 1, (some .int), tb_X10_fits),
  (yX10_fitsReadings, cX10_fitsReadings, 3, 1, (some .boolean), tb_X10_fitsReadings),
  (yX10_sheet, cX10_sheet, 5, 3, (some .int), tb_X10_sheet),
  (yX10_lose, cX10_lose, 3, 1, (some .int), tb_X10_lose),
  (yX10_put, cX10_put, 5, 3, (some .int), tb_X10_put),
  (yX10_cell, cX10_cell, 5, 3, (some .long), tb_X10_cell),
  (yX10_copy, cX10_copy, 8, 5, (some .int), tb_X10_copy),
  (yX10_tell, cX10_tell, 3, 1, (some .int), tb_X10_tell),
  (yX10_whisper, cX10_whisper, 3, 1, (some .int), tb_X10_whisper),
  (yX10_as, cX10_as, 4, 2, (some .int), tb_X10_as),
  (yX10_trace, cX10_trace, 1, 0, (some .int), tb_X10_trace),
  (yX10_fault, cX10_fault, 1, 0, (some .int), tb_X10_fault),
  (yX10_many, cX10_many, 2, 1, (some .int), tb_X10_many),
  (yX10_sheetAt, cX10_sheetAt, 2, 1, (some (.object "CorpseTales$Sheet")), tb_X10_sheetAt),
  (yX10_failing, cX10_failing, 2, 1, (some .int), tb_X10_failing),
  (yX10_isWithin, cX10_isWithin, 3, 3, (some .boolean), tb_X10_isWithin),
  (yX10_has, cX10_has, 2, 2, (some .boolean), tb_X10_has),
  (yX10_isOfKind, cX10_isOfKind, 2, 2, (some .boolean), tb_X10_isOfKind),
  (yX10_newNights, cX10_newNights, 3, 1, (some (.array (.object "CorpseTales$Night"))), tb_X10_newNights),
  (yX11_init, cX11_init, 2, 0, none, tb_X11_init),
  (yX11_in, cX11_in, 6, 3, (some .boolean), tb_X11_in),
  (yX11_lost, cX11_lost, 0, 0, (some .long), tb_X11_lost),
  (yX11_isIn, cX11_isIn, 2, 2, (some .boolean), tb_X11_isIn),
  (yX11_bits, cX11_bits, 3, 1, (some .int), tb_X11_bits),
  (yX11_told, cX11_told, 11, 3, (some .long), tb_X11_told),
  (yX11_refused, cX11_refused, 2, 1, (some .int), tb_X11_refused),
  (yX11_failed, cX11_failed, 2, 1, (some .int), tb_X11_failed),
  (yX11_failedLong, cX11_failedLong, 2, 1, (some .long), tb_X11_failedLong),
  (yX11_noTale, cX11_noTale, 2, 1, (some .boolean), tb_X11_noTale),
  (yX11_codeAt, cX11_codeAt, 3, 2, (some .int), tb_X11_codeAt),
  (yX11_figure, cX11_figure, 7, 4, (some .int), tb_X11_figure),
  (yX11_readsTale, cX11_readsTale, 8, 2, (some .boolean), tb_X11_readsTale),
  (yX11_readsForest, cX11_readsForest, 4, 2, (some .boolean), tb_X11_readsForest),
  (yX11_cellsBarred, cX11_cellsBarred, 6, 4, (some .int), tb_X11_cellsBarred),
  (yX11_forest, cX11_forest, 7, 4, (some .int), tb_X11_forest),
  (yX11_hasAnswer, cX11_hasAnswer, 6, 3, (some .boolean), tb_X11_hasAnswer),
  (yX11_ofTale, cX11_ofTale, 3, 2, (some .int), tb_X11_ofTale),
  (yX11_know, cX11_know, 4, 2, (some .int), tb_X11_know),
  (yX11_believe, cX11_believe, 4, 2, (some .int), tb_X11_believe),
  (yX11_beginNight, cX11_beginNight, 2, 1, none, tb_X11_beginNight),
  (yX11_goSteps, cX11_goSteps, 2, 1, none, tb_X11_goSteps),
  (yX11_goTale, cX11_goTale, 2, 1, (some .boolean), tb_X11_goTale),
  (yX11_goHeard, cX11_goHeard, 2, 1, none, tb_X11_goHeard),
  (yX11_goOrder, cX11_goOrder, 5, 3, none, tb_X11_goOrder),
  (yX11_orderBarred, cX11_orderBarred, 7, 4, (some .int), tb_X11_orderBarred),
  (yX11_night, cX11_night, 7, 5, (some .int), tb_X11_night),
  (yX11_comes, cX11_comes, 6, 4, (some .int), tb_X11_comes),
  (yX11_isUsed, cX11_isUsed, 5, 2, (some .boolean), tb_X11_isUsed),
  (yX11_lookAtRow, cX11_lookAtRow, 3, 1, none, tb_X11_lookAtRow),
  (yX11_seekNever, cX11_seekNever, 3, 1, none, tb_X11_seekNever),
  (yX11_never, cX11_never, 3, 2, (some .int), tb_X11_never),
  (yX11_study, cX11_study, 8, 4, (some .int), tb_X11_study),
  (yX11_nextWay, cX11_nextWay, 2, 1, (some .int), tb_X11_nextWay),
  (yX11_goWay, cX11_goWay, 3, 1, none, tb_X11_goWay),
  (yX11_play, cX11_play, 5, 1, (some .int), tb_X11_play),
  (yX11_game, cX11_game, 2, 1, (some .int), tb_X11_game),
  (yX11_porter, cX11_porter, 9, 3, (some .long), tb_X11_porter),
  (yX11_reading, cX11_reading, 4, 3, (some .int), tb_X11_reading),
  (yX11_back, cX11_back, 2, 1, (some .int), tb_X11_back),
  (yX11_areSo, cX11_areSo, 4, 1, (some .boolean), tb_X11_areSo),
  (yX11_fits, cX11_fits, 6, 1, (some .int), tb_X11_fits),
  (yX11_noSheet, cX11_noSheet, 1, 1, (some .boolean), tb_X11_noSheet),
  (yX11_sheet, cX11_sheet, 5, 3, (some .int), tb_X11_sheet),
  (yX11_lose, cX11_lose, 3, 1, (some .int), tb_X11_lose),
  (yX11_noCell, cX11_noCell, 3, 2, (some .int), tb_X11_noCell),
  (yX11_put, cX11_put, 4, 3, (some .int), tb_X11_put),
  (yX11_cell, cX11_cell, 4, 3, (some .long), tb_X11_cell),
  (yX11_isBeyond, cX11_isBeyond, 4, 3, (some .boolean), tb_X11_isBeyond),
  (yX11_copy, cX11_copy, 7, 5, (some .int), tb_X11_copy),
  (yX11_traced, cX11_traced, 2, 1, none, tb_X11_traced),
  (yX11_tell, cX11_tell, 4, 1, (some .int), tb_X11_tell),
  (yX11_whisper, cX11_whisper, 2, 1, (some .int), tb_X11_whisper),
  (yX11_as, cX11_as, 3, 2, (some .int), tb_X11_as),
  (yX11_trace, cX11_trace, 1, 0, (some .int), tb_X11_trace),
  (yX11_fault, cX11_fault, 1, 0, (some .int), tb_X11_fault),
  (yX11_many, cX11_many, 2, 1, (some .int), tb_X11_many),
  (yJ6_bitCount_0f7a4, cJ6_bitCount_0f7a4, 1, 1, (some .int), tb_J6_bitCount_0f7a4),
  (yJ7_fill_53178, cJ7_fill_53178, 4, 2, none, tb_J7_fill_53178)]
def zM (mid : Nat) : zQ := zMl.getD mid (⟨"X", "x", "()V"⟩, ByteArray.empty, 0, 0, none, [])
end
section
/-! the tables are the code, and all words that they need are there (written by wip/whole/gen/tables.py) -/
theorem zTok_of {M : Nat → zQ} {own nm : String} {cc : ByteArray} {ret : Option FieldType} {tab : List (Nat × zO)} (is js : List Nat) (h1 : tab.all (fun q => decide (decode cc q.1 = .ok (q.2.1, zlen q.2))) = true)
    (h2 : is.map (fun i => lw_tbl[i]?) = (tab.flatMap fun q => zneed M own q.2).map some) (h3 : (tab.flatMap fun q => zneed M own q.2).all goodWord = true) (h4 : js.map (fun i => lw_tbl[i]?) = (tab.flatMap fun q => zneedN M own q.2).map some)
    (h5 : (tab.flatMap fun q => zeqs M own q.2).all (fun z => decide (z.1 = z.2)) = true) (h6 : tab.all (fun q => zoks M nm ret q.1 q.2) = true) : zTok M own nm cc ret tab := by
  have key : ∀ (is : List Nat) (ws : List Cond), is.map (fun i => lw_tbl[i]?) = ws.map some → ∀ w ∈ ws, w ∈ lw_tbl := by
    intro is ws h w hw
    have h7 : some w ∈ is.map (fun i => lw_tbl[i]?) := by rw [h]; exact List.mem_map.mpr ⟨w, hw, rfl⟩
    obtain ⟨i, -, hi⟩ := List.mem_map.mp h7
    exact List.mem_of_getElem? hi
  intro q hq
  refine ⟨of_decide_eq_true (List.all_eq_true.mp h1 q hq), fun w hw => ?_, fun w hw => key js _ h4 w (List.mem_flatMap.mpr ⟨q, hq, hw⟩), fun z hz => of_decide_eq_true (List.all_eq_true.mp h5 z (List.mem_flatMap.mpr ⟨q, hq, hz⟩)), List.all_eq_true.mp h6 q hq⟩
  have hm : w ∈ tab.flatMap fun q => zneed M own q.2 := List.mem_flatMap.mpr ⟨q, hq, hw⟩
  exact List.mem_filter.mpr ⟨key is _ h2 w hm, List.all_eq_true.mp h3 w hm⟩
theorem zTok_app {M : Nat → zQ} {own nm : String} {cc : ByteArray} {ret : Option FieldType} {a b : List (Nat × zO)} (h1 : zTok M own nm cc ret a) (h2 : zTok M own nm cc ret b) : zTok M own nm cc ret (a ++ b) := fun q hq => (List.mem_append.mp hq).elim (h1 q) (h2 q)
set_option maxRecDepth 100000 in
theorem tk_X0_init_0 : zTok zM (zM 0).1.cls (zM 0).1.name (zM 0).2.1 (zM 0).2.2.2.2.1 tb_X0_init := zTok_of [323, 324, 45, 325] [] (by decide +kernel) (by decide +kernel) (by decide +kernel) (by decide +kernel) (by decide +kernel) (by decide +kernel)
theorem ok_X0_init : zMok zM 0 := ⟨tk_X0_init_0, by decide +kernel, ⟨by decide +kernel, by decide +kernel⟩, by decide +kernel, by decide +kernel⟩
set_option maxRecDepth 100000 in
theorem tk_X0_kind_0 : zTok zM (zM 1).1.cls (zM 1).1.name (zM 1).2.1 (zM 1).2.2.2.2.1 tb_X0_kind := zTok_of [] [] (by decide +kernel) (by decide +kernel) (by decide +kernel) (by decide +kernel) (by decide +kernel) (by decide +kernel)
theorem ok_X0_kind : zMok zM 1 := ⟨tk_X0_kind_0, by decide +kernel, ⟨by decide +kernel, by decide +kernel⟩, by decide +kernel, by decide +kernel⟩
set_option maxRecDepth 100000 in
theorem tk_X0_isAnswered_0 : zTok zM (zM 2).1.cls (zM 2).1.name (zM 2).2.1 (zM 2).2.2.2.2.1 tb_X0_isAnswered := zTok_of [332, 333, 332, 333, 401, 35, 402, 336, 337, 336, 337, 401, 35, 402] [400, 400] (by decide +kernel) (by decide +kernel) (by decide +kernel) (by decide +kernel) (by decide +kernel) (by decide +kernel)
theorem ok_X0_isAnswered : zMok zM 2 := ⟨tk_X0_isAnswered_0, by decide +kernel, ⟨by decide +kernel, by decide +kernel⟩, by decide +kernel, by decide +kernel⟩
set_option maxRecDepth 100000 in
theorem tk_X0_oddsUnanswered_0 : zTok zM (zM 3).1.cls (zM 3).1.name (zM 3).2.1 (zM 3).2.2.2.2.1 tb_X0_oddsUnanswered := zTok_of [332, 333, 332, 333, 336, 337, 336, 337, 531, 527, 365, 525, 45, 533] [] (by decide +kernel) (by decide +kernel) (by decide +kernel) (by decide +kernel) (by decide +kernel) (by decide +kernel)
theorem ok_X0_oddsUnanswered : zMok zM 3 := ⟨tk_X0_oddsUnanswered_0, by decide +kernel, ⟨by decide +kernel, by decide +kernel⟩, by decide +kernel, by decide +kernel⟩
set_option maxRecDepth 100000 in
theorem tk_X0_telling_0 : zTok zM (zM 4).1.cls (zM 4).1.name (zM 4).2.1 (zM 4).2.2.2.2.1 tb_X0_telling := zTok_of [607, 608, 609, 38, 610, 611, 603, 365, 601, 45, 624] [] (by decide +kernel) (by decide +kernel) (by decide +kernel) (by decide +kernel) (by decide +kernel) (by decide +kernel)
theorem ok_X0_telling : zMok zM 4 := ⟨tk_X0_telling_0, by decide +kernel, ⟨by decide +kernel, by decide +kernel⟩, by decide +kernel, by decide +kernel⟩
set_option maxRecDepth 100000 in
theorem tk_X1_init_0 : zTok zM (zM 5).1.cls (zM 5).1.name (zM 5).2.1 (zM 5).2.2.2.2.1 tb_X1_init := zTok_of [64, 57, 58, 67, 70, 65, 74] [66] (by decide +kernel) (by decide +kernel) (by decide +kernel) (by decide +kernel) (by decide +kernel) (by decide +kernel)
theorem ok_X1_init : zMok zM 5 := ⟨tk_X1_init_0, by decide +kernel, ⟨by decide +kernel, by decide +kernel⟩, by decide +kernel, by decide +kernel⟩
set_option maxRecDepth 100000 in
theorem tk_X1_taleAt_0 : zTok zM (zM 6).1.cls (zM 6).1.name (zM 6).2.1 (zM 6).2.2.2.2.1 tb_X1_taleAt := zTok_of [70, 74] [] (by decide +kernel) (by decide +kernel) (by decide +kernel) (by decide +kernel) (by decide +kernel) (by decide +kernel)
theorem ok_X1_taleAt : zMok zM 6 := ⟨tk_X1_taleAt_0, by decide +kernel, ⟨by decide +kernel, by decide +kernel⟩, by decide +kernel, by decide +kernel⟩
set_option maxRecDepth 100000 in
theorem tk_X1_firstFault_0 : zTok zM (zM 7).1.cls (zM 7).1.name (zM 7).2.1 (zM 7).2.2.2.2.1 tb_X1_firstFault := zTok_of [293, 294, 295, 43, 296, 301, 302, 36, 303] [] (by decide +kernel) (by decide +kernel) (by decide +kernel) (by decide +kernel) (by decide +kernel) (by decide +kernel)
theorem ok_X1_firstFault : zMok zM 7 := ⟨tk_X1_firstFault_0, by decide +kernel, ⟨by decide +kernel, by decide +kernel⟩, by decide +kernel, by decide +kernel⟩
set_option maxRecDepth 100000 in
theorem tk_X1_goesOn_0 : zTok zM (zM 8).1.cls (zM 8).1.name (zM 8).2.1 (zM 8).2.2.2.2.1 tb_X1_goesOn_0 := zTok_of [268, 35, 269] [304] (by decide +kernel) (by decide +kernel) (by decide +kernel) (by decide +kernel) (by decide +kernel) (by decide +kernel)
set_option maxRecDepth 100000 in
theorem tk_X1_goesOn_1 : zTok zM (zM 8).1.cls (zM 8).1.name (zM 8).2.1 (zM 8).2.2.2.2.1 tb_X1_goesOn_1 := zTok_of [268, 35, 269, 268, 35, 269] [304, 304] (by decide +kernel) (by decide +kernel) (by decide +kernel) (by decide +kernel) (by decide +kernel) (by decide +kernel)
theorem ok_X1_goesOn : zMok zM 8 := ⟨zTok_app (tk_X1_goesOn_0) tk_X1_goesOn_1, by decide +kernel, ⟨by decide +kernel, by decide +kernel⟩, by decide +kernel, by decide +kernel⟩
set_option maxRecDepth 100000 in
theorem tk_X1_grow_0 : zTok zM (zM 9).1.cls (zM 9).1.name (zM 9).2.1 (zM 9).2.2.2.2.1 tb_X1_grow_0 := zTok_of [293, 294, 295, 43, 296, 67, 309, 310, 41, 311, 70, 70, 74, 312, 313, 36, 314] [] (by decide +kernel) (by decide +kernel) (by decide +kernel) (by decide +kernel) (by decide +kernel) (by decide +kernel)
set_option maxRecDepth 100000 in
theorem tk_X1_grow_1 : zTok zM (zM 9).1.cls (zM 9).1.name (zM 9).2.1 (zM 9).2.2.2.2.1 tb_X1_grow_1 := zTok_of [] [] (by decide +kernel) (by decide +kernel) (by decide +kernel) (by decide +kernel) (by decide +kernel) (by decide +kernel)
theorem ok_X1_grow : zMok zM 9 := ⟨zTok_app (tk_X1_grow_0) tk_X1_grow_1, by decide +kernel, ⟨by decide +kernel, by decide +kernel⟩, by decide +kernel, by decide +kernel⟩
set_option maxRecDepth 100000 in
theorem tk_X1_newTale_0 : zTok zM (zM 10).1.cls (zM 10).1.name (zM 10).2.1 (zM 10).2.2.2.2.1 tb_X1_newTale_0 := zTok_of [293, 294, 295, 43, 296, 293, 294, 295, 43, 296, 293, 294, 295, 43, 296, 293, 294, 295, 43, 296, 293, 294, 295, 43, 296] [] (by decide +kernel) (by decide +kernel) (by decide +kernel) (by decide +kernel) (by decide +kernel) (by decide +kernel)
set_option maxRecDepth 100000 in
theorem tk_X1_newTale_1 : zTok zM (zM 10).1.cls (zM 10).1.name (zM 10).2.1 (zM 10).2.2.2.2.1 tb_X1_newTale_1 := zTok_of [315, 316, 47, 317, 318, 47, 319, 357, 358, 46, 359, 321, 46, 322, 65, 366, 45, 367, 324, 45, 325] [] (by decide +kernel) (by decide +kernel) (by decide +kernel) (by decide +kernel) (by decide +kernel) (by decide +kernel)
theorem ok_X1_newTale : zMok zM 10 := ⟨zTok_app (tk_X1_newTale_0) tk_X1_newTale_1, by decide +kernel, ⟨by decide +kernel, by decide +kernel⟩, by decide +kernel, by decide +kernel⟩
set_option maxRecDepth 100000 in
theorem tk_X2_init_0 : zTok zM (zM 11).1.cls (zM 11).1.name (zM 11).2.1 (zM 11).2.2.2.2.1 tb_X2_init := zTok_of [196, 57, 58, 167, 35, 168, 198, 199] [197] (by decide +kernel) (by decide +kernel) (by decide +kernel) (by decide +kernel) (by decide +kernel) (by decide +kernel)
theorem ok_X2_init : zMok zM 11 := ⟨tk_X2_init_0, by decide +kernel, ⟨by decide +kernel, by decide +kernel⟩, by decide +kernel, by decide +kernel⟩
set_option maxRecDepth 100000 in
theorem tk_X2_farByBestPlay_0 : zTok zM (zM 12).1.cls (zM 12).1.name (zM 12).2.1 (zM 12).2.2.2.2.1 tb_X2_farByBestPlay := zTok_of [504, 170, 41, 171, 505, 310, 41, 311, 71, 505, 310, 41, 311, 199, 198, 506, 473, 474, 39, 475, 507, 509, 6, 42, 510] [] (by decide +kernel) (by decide +kernel) (by decide +kernel) (by decide +kernel) (by decide +kernel) (by decide +kernel)
theorem ok_X2_farByBestPlay : zMok zM 12 := ⟨tk_X2_farByBestPlay_0, by decide +kernel, ⟨by decide +kernel, by decide +kernel⟩, by decide +kernel, by decide +kernel⟩
set_option maxRecDepth 100000 in
theorem tk_X2_leastFar_0 : zTok zM (zM 13).1.cls (zM 13).1.name (zM 13).2.1 (zM 13).2.2.2.2.1 tb_X2_leastFar_0 := zTok_of [199, 198, 199, 126, 68, 71, 401, 35, 402, 512, 514, 7, 42, 515, 505, 310, 41, 311] [511] (by decide +kernel) (by decide +kernel) (by decide +kernel) (by decide +kernel) (by decide +kernel) (by decide +kernel)
set_option maxRecDepth 100000 in
theorem tk_X2_leastFar_1 : zTok zM (zM 13).1.cls (zM 13).1.name (zM 13).2.1 (zM 13).2.2.2.2.1 tb_X2_leastFar_1 := zTok_of [] [] (by decide +kernel) (by decide +kernel) (by decide +kernel) (by decide +kernel) (by decide +kernel) (by decide +kernel)
theorem ok_X2_leastFar : zMok zM 13 := ⟨zTok_app (tk_X2_leastFar_0) tk_X2_leastFar_1, by decide +kernel, ⟨by decide +kernel, by decide +kernel⟩, by decide +kernel, by decide +kernel⟩
set_option maxRecDepth 100000 in
theorem tk_X2_mostFar_0 : zTok zM (zM 14).1.cls (zM 14).1.name (zM 14).2.1 (zM 14).2.2.2.2.1 tb_X2_mostFar_0 := zTok_of [516, 379, 380, 36, 381, 199, 198, 198, 506, 473, 474, 39, 475, 517, 444, 445, 39, 446, 138, 126] [] (by decide +kernel) (by decide +kernel) (by decide +kernel) (by decide +kernel) (by decide +kernel) (by decide +kernel)
set_option maxRecDepth 100000 in
theorem tk_X2_mostFar_1 : zTok zM (zM 14).1.cls (zM 14).1.name (zM 14).2.1 (zM 14).2.2.2.2.1 tb_X2_mostFar_1 := zTok_of [507, 509, 6, 42, 510, 134, 341, 341, 341, 401, 35, 402, 518, 455, 456, 39, 457, 507, 509, 6, 42, 510, 504, 170, 41, 171] [511] (by decide +kernel) (by decide +kernel) (by decide +kernel) (by decide +kernel) (by decide +kernel) (by decide +kernel)
theorem ok_X2_mostFar : zMok zM 14 := ⟨zTok_app (tk_X2_mostFar_0) tk_X2_mostFar_1, by decide +kernel, ⟨by decide +kernel, by decide +kernel⟩, by decide +kernel, by decide +kernel⟩
set_option maxRecDepth 100000 in
theorem tk_X3_init_0 : zTok zM (zM 15).1.cls (zM 15).1.name (zM 15).2.1 (zM 15).2.2.2.2.1 tb_X3_init := zTok_of [165, 57, 58, 173, 105, 175, 105, 177, 167, 35, 168, 178, 179] [166] (by decide +kernel) (by decide +kernel) (by decide +kernel) (by decide +kernel) (by decide +kernel) (by decide +kernel)
theorem ok_X3_init : zMok zM 15 := ⟨tk_X3_init_0, by decide +kernel, ⟨by decide +kernel, by decide +kernel⟩, by decide +kernel, by decide +kernel⟩
set_option maxRecDepth 100000 in
theorem tk_X3_seek_0 : zTok zM (zM 16).1.cls (zM 16).1.name (zM 16).2.1 (zM 16).2.2.2.2.1 tb_X3_seek := zTok_of [470, 170, 41, 171, 471, 310, 41, 311, 179, 173, 178, 472, 473, 474, 39, 475, 476, 478, 5, 40, 479] [] (by decide +kernel) (by decide +kernel) (by decide +kernel) (by decide +kernel) (by decide +kernel) (by decide +kernel)
theorem ok_X3_seek : zMok zM 16 := ⟨tk_X3_seek_0, by decide +kernel, ⟨by decide +kernel, by decide +kernel⟩, by decide +kernel, by decide +kernel⟩
set_option maxRecDepth 100000 in
theorem tk_X3_goOn_0 : zTok zM (zM 17).1.cls (zM 17).1.name (zM 17).2.1 (zM 17).2.2.2.2.1 tb_X3_goOn_0 := zTok_of [179, 178, 129, 179, 173, 179, 129, 173, 177, 175, 179, 480, 482, 481, 48] [] (by decide +kernel) (by decide +kernel) (by decide +kernel) (by decide +kernel) (by decide +kernel) (by decide +kernel)
set_option maxRecDepth 100000 in
theorem tk_X3_goOn_1 : zTok zM (zM 17).1.cls (zM 17).1.name (zM 17).2.1 (zM 17).2.2.2.2.1 tb_X3_goOn_1 := zTok_of [73, 401, 35, 402, 178, 472, 473, 474, 39, 475, 484, 379, 380, 36, 381, 485, 444, 445, 39, 446, 137, 177] [483] (by decide +kernel) (by decide +kernel) (by decide +kernel) (by decide +kernel) (by decide +kernel) (by decide +kernel)
set_option maxRecDepth 100000 in
theorem tk_X3_goOn_2 : zTok zM (zM 17).1.cls (zM 17).1.name (zM 17).2.1 (zM 17).2.2.2.2.1 tb_X3_goOn_2 := zTok_of [476, 478, 5, 40, 479] [] (by decide +kernel) (by decide +kernel) (by decide +kernel) (by decide +kernel) (by decide +kernel) (by decide +kernel)
theorem ok_X3_goOn : zMok zM 17 := ⟨zTok_app (zTok_app (tk_X3_goOn_0) tk_X3_goOn_1) tk_X3_goOn_2, by decide +kernel, ⟨by decide +kernel, by decide +kernel⟩, by decide +kernel, by decide +kernel⟩
set_option maxRecDepth 100000 in
theorem tk_X4_init_0 : zTok zM (zM 18).1.cls (zM 18).1.name (zM 18).2.1 (zM 18).2.2.2.2.1 tb_X4_init := zTok_of [124, 57, 58, 125, 128, 131, 133, 136, 140, 141, 142] [] (by decide +kernel) (by decide +kernel) (by decide +kernel) (by decide +kernel) (by decide +kernel) (by decide +kernel)
theorem ok_X4_init : zMok zM 18 := ⟨tk_X4_init_0, by decide +kernel, ⟨by decide +kernel, by decide +kernel⟩, by decide +kernel, by decide +kernel⟩
set_option maxRecDepth 100000 in
theorem tk_X4_begin_0 : zTok zM (zM 19).1.cls (zM 19).1.name (zM 19).2.1 (zM 19).2.2.2.2.1 tb_X4_begin := zTok_of [140, 133, 141, 125, 128, 131, 142, 136] [] (by decide +kernel) (by decide +kernel) (by decide +kernel) (by decide +kernel) (by decide +kernel) (by decide +kernel)
theorem ok_X4_begin : zMok zM 19 := ⟨tk_X4_begin_0, by decide +kernel, ⟨by decide +kernel, by decide +kernel⟩, by decide +kernel, by decide +kernel⟩
set_option maxRecDepth 100000 in
theorem tk_X4_takeUp_0 : zTok zM (zM 20).1.cls (zM 20).1.name (zM 20).2.1 (zM 20).2.2.2.2.1 tb_X4_takeUp := zTok_of [140, 140, 133, 133, 141, 141, 125, 125, 128, 128, 131, 131, 142, 142, 136, 136] [] (by decide +kernel) (by decide +kernel) (by decide +kernel) (by decide +kernel) (by decide +kernel) (by decide +kernel)
theorem ok_X4_takeUp : zMok zM 20 := ⟨tk_X4_takeUp_0, by decide +kernel, ⟨by decide +kernel, by decide +kernel⟩, by decide +kernel, by decide +kernel⟩
set_option maxRecDepth 100000 in
theorem tk_X4_hear_0 : zTok zM (zM 21).1.cls (zM 21).1.name (zM 21).2.1 (zM 21).2.2.2.2.1 tb_X4_hear_0 := zTok_of [136, 345, 345, 345, 447, 449, 4, 39, 450, 136, 133, 142, 452, 396, 397, 398, 46, 399, 394, 408, 452, 396, 403, 404, 47, 405, 394, 408, 452, 394, 395, 45, 408, 128, 128, 125, 141, 453, 412, 413, 410, 45, 415, 453, 412, 414, 410, 45, 415, 453, 410, 411, 45, 415, 447, 449, 4, 39, 450] [] (by decide +kernel) (by decide +kernel) (by decide +kernel) (by decide +kernel) (by decide +kernel) (by decide +kernel)
set_option maxRecDepth 100000 in
theorem tk_X4_hear_1 : zTok zM (zM 21).1.cls (zM 21).1.name (zM 21).2.1 (zM 21).2.2.2.2.1 tb_X4_hear_1 := zTok_of [131, 131, 142, 330, 330, 330, 142, 454, 455, 456, 39, 457] [] (by decide +kernel) (by decide +kernel) (by decide +kernel) (by decide +kernel) (by decide +kernel) (by decide +kernel)
theorem ok_X4_hear : zMok zM 21 := ⟨zTok_app (tk_X4_hear_0) tk_X4_hear_1, by decide +kernel, ⟨by decide +kernel, by decide +kernel⟩, by decide +kernel, by decide +kernel⟩
set_option maxRecDepth 100000 in
theorem tk_X4_learn_0 : zTok zM (zM 22).1.cls (zM 22).1.name (zM 22).2.1 (zM 22).2.2.2.2.1 tb_X4_learn := zTok_of [133, 342, 342, 342, 133] [] (by decide +kernel) (by decide +kernel) (by decide +kernel) (by decide +kernel) (by decide +kernel) (by decide +kernel)
theorem ok_X4_learn : zMok zM 22 := ⟨tk_X4_learn_0, by decide +kernel, ⟨by decide +kernel, by decide +kernel⟩, by decide +kernel, by decide +kernel⟩
set_option maxRecDepth 100000 in
theorem tk_X4_walk_0 : zTok zM (zM 23).1.cls (zM 23).1.name (zM 23).2.1 (zM 23).2.2.2.2.1 tb_X4_walk := zTok_of [125, 140, 451, 310, 41, 311, 125, 125, 140, 136] [] (by decide +kernel) (by decide +kernel) (by decide +kernel) (by decide +kernel) (by decide +kernel) (by decide +kernel)
theorem ok_X4_walk : zMok zM 23 := ⟨tk_X4_walk_0, by decide +kernel, ⟨by decide +kernel, by decide +kernel⟩, by decide +kernel, by decide +kernel⟩
set_option maxRecDepth 100000 in
theorem tk_X5_init_0 : zTok zM (zM 24).1.cls (zM 24).1.name (zM 24).2.1 (zM 24).2.2.2.2.1 tb_X5_init := zTok_of [320, 321, 46, 322] [] (by decide +kernel) (by decide +kernel) (by decide +kernel) (by decide +kernel) (by decide +kernel) (by decide +kernel)
theorem ok_X5_init : zMok zM 24 := ⟨tk_X5_init_0, by decide +kernel, ⟨by decide +kernel, by decide +kernel⟩, by decide +kernel, by decide +kernel⟩
set_option maxRecDepth 100000 in
theorem tk_X5_kind_0 : zTok zM (zM 25).1.cls (zM 25).1.name (zM 25).2.1 (zM 25).2.2.2.2.1 tb_X5_kind := zTok_of [] [] (by decide +kernel) (by decide +kernel) (by decide +kernel) (by decide +kernel) (by decide +kernel) (by decide +kernel)
theorem ok_X5_kind : zMok zM 25 := ⟨tk_X5_kind_0, by decide +kernel, ⟨by decide +kernel, by decide +kernel⟩, by decide +kernel, by decide +kernel⟩
set_option maxRecDepth 100000 in
theorem tk_X5_isAnswered_0 : zTok zM (zM 26).1.cls (zM 26).1.name (zM 26).2.1 (zM 26).2.2.2.2.1 tb_X5_isAnswered := zTok_of [328, 329, 401, 35, 402, 407, 1023, 356, 398, 46, 399] [406] (by decide +kernel) (by decide +kernel) (by decide +kernel) (by decide +kernel) (by decide +kernel) (by decide +kernel)
theorem ok_X5_isAnswered : zMok zM 26 := ⟨tk_X5_isAnswered_0, by decide +kernel, ⟨by decide +kernel, by decide +kernel⟩, by decide +kernel, by decide +kernel⟩
set_option maxRecDepth 100000 in
theorem tk_X5_telling_0 : zTok zM (zM 27).1.cls (zM 27).1.name (zM 27).2.1 (zM 27).2.2.2.2.1 tb_X5_telling := zTok_of [615, 608, 609, 38, 610, 616, 1024, 356, 605, 46, 606, 617, 618, 620, 621, 45, 622] [] (by decide +kernel) (by decide +kernel) (by decide +kernel) (by decide +kernel) (by decide +kernel) (by decide +kernel)
theorem ok_X5_telling : zMok zM 27 := ⟨tk_X5_telling_0, by decide +kernel, ⟨by decide +kernel, by decide +kernel⟩, by decide +kernel, by decide +kernel⟩
set_option maxRecDepth 100000 in
theorem tk_X5_whispering_0 : zTok zM (zM 28).1.cls (zM 28).1.name (zM 28).2.1 (zM 28).2.2.2.2.1 tb_X5_whispering := zTok_of [615, 608, 609, 38, 610] [] (by decide +kernel) (by decide +kernel) (by decide +kernel) (by decide +kernel) (by decide +kernel) (by decide +kernel)
theorem ok_X5_whispering : zMok zM 28 := ⟨tk_X5_whispering_0, by decide +kernel, ⟨by decide +kernel, by decide +kernel⟩, by decide +kernel, by decide +kernel⟩
set_option maxRecDepth 100000 in
theorem tk_X6_init_0 : zTok zM (zM 29).1.cls (zM 29).1.name (zM 29).2.1 (zM 29).2.2.2.2.1 tb_X6_init := zTok_of [87, 57, 58, 88, 105, 90, 105, 92, 105, 94] [] (by decide +kernel) (by decide +kernel) (by decide +kernel) (by decide +kernel) (by decide +kernel) (by decide +kernel)
theorem ok_X6_init : zMok zM 29 := ⟨tk_X6_init_0, by decide +kernel, ⟨by decide +kernel, by decide +kernel⟩, by decide +kernel, by decide +kernel⟩
set_option maxRecDepth 100000 in
theorem tk_X6_add_0 : zTok zM (zM 30).1.cls (zM 30).1.name (zM 30).2.1 (zM 30).2.2.2.2.1 tb_X6_add := zTok_of [88, 88, 90, 88, 92, 88, 94, 88, 88, 88, 88] [] (by decide +kernel) (by decide +kernel) (by decide +kernel) (by decide +kernel) (by decide +kernel) (by decide +kernel)
theorem ok_X6_add : zMok zM 30 := ⟨tk_X6_add_0, by decide +kernel, ⟨by decide +kernel, by decide +kernel⟩, by decide +kernel, by decide +kernel⟩
set_option maxRecDepth 100000 in
theorem tk_X7_init_0 : zTok zM (zM 31).1.cls (zM 31).1.name (zM 31).2.1 (zM 31).2.2.2.2.1 tb_X7_init := zTok_of [209, 57, 58, 210, 212, 105, 213] [] (by decide +kernel) (by decide +kernel) (by decide +kernel) (by decide +kernel) (by decide +kernel) (by decide +kernel)
theorem ok_X7_init : zMok zM 31 := ⟨tk_X7_init_0, by decide +kernel, ⟨by decide +kernel, by decide +kernel⟩, by decide +kernel, by decide +kernel⟩
set_option maxRecDepth 100000 in
theorem tk_X7_isNothing_0 : zTok zM (zM 32).1.cls (zM 32).1.name (zM 32).2.1 (zM 32).2.2.2.2.1 tb_X7_isNothing := zTok_of [210] [] (by decide +kernel) (by decide +kernel) (by decide +kernel) (by decide +kernel) (by decide +kernel) (by decide +kernel)
theorem ok_X7_isNothing : zMok zM 32 := ⟨tk_X7_isNothing_0, by decide +kernel, ⟨by decide +kernel, by decide +kernel⟩, by decide +kernel, by decide +kernel⟩
set_option maxRecDepth 100000 in
theorem tk_X7_clear_0 : zTok zM (zM 33).1.cls (zM 33).1.name (zM 33).2.1 (zM 33).2.2.2.2.1 tb_X7_clear := zTok_of [210, 212] [] (by decide +kernel) (by decide +kernel) (by decide +kernel) (by decide +kernel) (by decide +kernel) (by decide +kernel)
theorem ok_X7_clear : zMok zM 33 := ⟨tk_X7_clear_0, by decide +kernel, ⟨by decide +kernel, by decide +kernel⟩, by decide +kernel, by decide +kernel⟩
set_option maxRecDepth 100000 in
theorem tk_X7_renew_0 : zTok zM (zM 34).1.cls (zM 34).1.name (zM 34).2.1 (zM 34).2.2.2.2.1 tb_X7_renew := zTok_of [213, 562, 563, 50, 564, 210, 565, 170, 41, 171, 566, 310, 41, 311, 212] [] (by decide +kernel) (by decide +kernel) (by decide +kernel) (by decide +kernel) (by decide +kernel) (by decide +kernel)
theorem ok_X7_renew : zMok zM 34 := ⟨tk_X7_renew_0, by decide +kernel, ⟨by decide +kernel, by decide +kernel⟩, by decide +kernel, by decide +kernel⟩
set_option maxRecDepth 100000 in
theorem tk_X7_hasCell_0 : zTok zM (zM 35).1.cls (zM 35).1.name (zM 35).2.1 (zM 35).2.2.2.2.1 tb_X7_hasCell := zTok_of [212] [] (by decide +kernel) (by decide +kernel) (by decide +kernel) (by decide +kernel) (by decide +kernel) (by decide +kernel)
theorem ok_X7_hasCell : zMok zM 35 := ⟨tk_X7_hasCell_0, by decide +kernel, ⟨by decide +kernel, by decide +kernel⟩, by decide +kernel, by decide +kernel⟩
set_option maxRecDepth 100000 in
theorem tk_X7_hasCells_0 : zTok zM (zM 36).1.cls (zM 36).1.name (zM 36).2.1 (zM 36).2.2.2.2.1 tb_X7_hasCells := zTok_of [212, 212] [] (by decide +kernel) (by decide +kernel) (by decide +kernel) (by decide +kernel) (by decide +kernel) (by decide +kernel)
theorem ok_X7_hasCells : zMok zM 36 := ⟨tk_X7_hasCells_0, by decide +kernel, ⟨by decide +kernel, by decide +kernel⟩, by decide +kernel, by decide +kernel⟩
end
section
set_option maxRecDepth 100000 in
theorem tk_X7_faultOfLane_0 : zTok zM (zM 37).1.cls (zM 37).1.name (zM 37).2.1 (zM 37).2.2.2.2.1 tb_X7_faultOfLane := zTok_of [278, 279, 280, 43, 281, 210] [] (by decide +kernel) (by decide +kernel) (by decide +kernel) (by decide +kernel) (by decide +kernel) (by decide +kernel)
theorem ok_X7_faultOfLane : zMok zM 37 := ⟨tk_X7_faultOfLane_0, by decide +kernel, ⟨by decide +kernel, by decide +kernel⟩, by decide +kernel, by decide +kernel⟩
set_option maxRecDepth 100000 in
theorem tk_X7_faultOfCells_0 : zTok zM (zM 38).1.cls (zM 38).1.name (zM 38).2.1 (zM 38).2.2.2.2.1 tb_X7_faultOfCells := zTok_of [274, 275, 276, 43, 277, 282, 283, 284, 43, 285] [] (by decide +kernel) (by decide +kernel) (by decide +kernel) (by decide +kernel) (by decide +kernel) (by decide +kernel)
theorem ok_X7_faultOfCells : zMok zM 38 := ⟨tk_X7_faultOfCells_0, by decide +kernel, ⟨by decide +kernel, by decide +kernel⟩, by decide +kernel, by decide +kernel⟩
set_option maxRecDepth 100000 in
theorem tk_X7_read_0 : zTok zM (zM 39).1.cls (zM 39).1.name (zM 39).2.1 (zM 39).2.2.2.2.1 tb_X7_read := zTok_of [297, 298, 299, 43, 300, 213] [] (by decide +kernel) (by decide +kernel) (by decide +kernel) (by decide +kernel) (by decide +kernel) (by decide +kernel)
theorem ok_X7_read : zMok zM 39 := ⟨tk_X7_read_0, by decide +kernel, ⟨by decide +kernel, by decide +kernel⟩, by decide +kernel, by decide +kernel⟩
set_option maxRecDepth 100000 in
theorem tk_X7_write_0 : zTok zM (zM 40).1.cls (zM 40).1.name (zM 40).2.1 (zM 40).2.2.2.2.1 tb_X7_write := zTok_of [297, 298, 299, 43, 300, 213, 210, 210] [] (by decide +kernel) (by decide +kernel) (by decide +kernel) (by decide +kernel) (by decide +kernel) (by decide +kernel)
theorem ok_X7_write : zMok zM 40 := ⟨tk_X7_write_0, by decide +kernel, ⟨by decide +kernel, by decide +kernel⟩, by decide +kernel, by decide +kernel⟩
set_option maxRecDepth 100000 in
theorem tk_X8_init_0 : zTok zM (zM 41).1.cls (zM 41).1.name (zM 41).2.1 (zM 41).2.2.2.2.1 tb_X8_init := zTok_of [326, 57, 58, 327, 327, 327, 331, 331, 331, 335, 335, 335, 339, 339, 339, 343, 343, 343] [] (by decide +kernel) (by decide +kernel) (by decide +kernel) (by decide +kernel) (by decide +kernel) (by decide +kernel)
theorem ok_X8_init : zMok zM 41 := ⟨tk_X8_init_0, by decide +kernel, ⟨by decide +kernel, by decide +kernel⟩, by decide +kernel, by decide +kernel⟩
set_option maxRecDepth 100000 in
theorem tk_X8_kind_0 : zTok zM (zM 42).1.cls (zM 42).1.name (zM 42).2.1 (zM 42).2.2.2.2.1 tb_X8_kind := zTok_of [] [] (by decide +kernel) (by decide +kernel) (by decide +kernel) (by decide +kernel) (by decide +kernel) (by decide +kernel)
theorem ok_X8_kind : zMok zM 42 := ⟨tk_X8_kind_0, by decide +kernel, ⟨by decide +kernel, by decide +kernel⟩, by decide +kernel, by decide +kernel⟩
set_option maxRecDepth 100000 in
theorem tk_X8_isAnswered_0 : zTok zM (zM 43).1.cls (zM 43).1.name (zM 43).2.1 (zM 43).2.2.2.2.1 tb_X8_isAnswered := zTok_of [409, 412, 413, 410, 45, 415, 409, 412, 414, 410, 45, 415, 409, 410, 411, 45, 415] [] (by decide +kernel) (by decide +kernel) (by decide +kernel) (by decide +kernel) (by decide +kernel) (by decide +kernel)
theorem ok_X8_isAnswered : zMok zM 43 := ⟨tk_X8_isAnswered_0, by decide +kernel, ⟨by decide +kernel, by decide +kernel⟩, by decide +kernel, by decide +kernel⟩
set_option maxRecDepth 100000 in
theorem tk_X8_hasEitherNeed_0 : zTok zM (zM 44).1.cls (zM 44).1.name (zM 44).2.1 (zM 44).2.2.2.2.1 tb_X8_hasEitherNeed := zTok_of [331, 331, 331, 401, 35, 402, 335, 335, 335, 401, 35, 402] [416, 416] (by decide +kernel) (by decide +kernel) (by decide +kernel) (by decide +kernel) (by decide +kernel) (by decide +kernel)
theorem ok_X8_hasEitherNeed : zMok zM 44 := ⟨tk_X8_hasEitherNeed_0, by decide +kernel, ⟨by decide +kernel, by decide +kernel⟩, by decide +kernel, by decide +kernel⟩
set_option maxRecDepth 100000 in
theorem tk_X8_oddsUnanswered_0 : zTok zM (zM 45).1.cls (zM 45).1.name (zM 45).2.1 (zM 45).2.2.2.2.1 tb_X8_oddsUnanswered := zTok_of [331, 331, 331, 335, 335, 335] [] (by decide +kernel) (by decide +kernel) (by decide +kernel) (by decide +kernel) (by decide +kernel) (by decide +kernel)
theorem ok_X8_oddsUnanswered : zMok zM 45 := ⟨tk_X8_oddsUnanswered_0, by decide +kernel, ⟨by decide +kernel, by decide +kernel⟩, by decide +kernel, by decide +kernel⟩
set_option maxRecDepth 100000 in
theorem tk_X8_telling_0 : zTok zM (zM 46).1.cls (zM 46).1.name (zM 46).2.1 (zM 46).2.2.2.2.1 tb_X8_telling := zTok_of [625, 1025, 1026, 621, 45, 622, 625, 1025, 1027, 621, 45, 622, 625, 621, 1028, 45, 622] [] (by decide +kernel) (by decide +kernel) (by decide +kernel) (by decide +kernel) (by decide +kernel) (by decide +kernel)
theorem ok_X8_telling : zMok zM 46 := ⟨tk_X8_telling_0, by decide +kernel, ⟨by decide +kernel, by decide +kernel⟩, by decide +kernel, by decide +kernel⟩
set_option maxRecDepth 100000 in
theorem tk_X8_plainTelling_0 : zTok zM (zM 47).1.cls (zM 47).1.name (zM 47).2.1 (zM 47).2.2.2.2.1 tb_X8_plainTelling := zTok_of [623, 608, 609, 38, 610, 339, 339, 339] [] (by decide +kernel) (by decide +kernel) (by decide +kernel) (by decide +kernel) (by decide +kernel) (by decide +kernel)
theorem ok_X8_plainTelling : zMok zM 47 := ⟨tk_X8_plainTelling_0, by decide +kernel, ⟨by decide +kernel, by decide +kernel⟩, by decide +kernel, by decide +kernel⟩
set_option maxRecDepth 100000 in
theorem tk_X8_whispering_0 : zTok zM (zM 48).1.cls (zM 48).1.name (zM 48).2.1 (zM 48).2.2.2.2.1 tb_X8_whispering := zTok_of [623, 608, 609, 38, 610, 327, 327, 327] [] (by decide +kernel) (by decide +kernel) (by decide +kernel) (by decide +kernel) (by decide +kernel) (by decide +kernel)
theorem ok_X8_whispering : zMok zM 48 := ⟨tk_X8_whispering_0, by decide +kernel, ⟨by decide +kernel, by decide +kernel⟩, by decide +kernel, by decide +kernel⟩
set_option maxRecDepth 100000 in
theorem tk_X9_init_0 : zTok zM (zM 49).1.cls (zM 49).1.name (zM 49).2.1 (zM 49).2.2.2.2.1 tb_X9_init := zTok_of [113, 57, 58, 114] [] (by decide +kernel) (by decide +kernel) (by decide +kernel) (by decide +kernel) (by decide +kernel) (by decide +kernel)
theorem ok_X9_init : zMok zM 49 := ⟨tk_X9_init_0, by decide +kernel, ⟨by decide +kernel, by decide +kernel⟩, by decide +kernel, by decide +kernel⟩
set_option maxRecDepth 100000 in
theorem tk_X9_leave_0 : zTok zM (zM 50).1.cls (zM 50).1.name (zM 50).2.1 (zM 50).2.2.2.2.1 tb_X9_leave := zTok_of [114, 114] [] (by decide +kernel) (by decide +kernel) (by decide +kernel) (by decide +kernel) (by decide +kernel) (by decide +kernel)
theorem ok_X9_leave : zMok zM 50 := ⟨tk_X9_leave_0, by decide +kernel, ⟨by decide +kernel, by decide +kernel⟩, by decide +kernel, by decide +kernel⟩
set_option maxRecDepth 100000 in
theorem tk_X10_init_0 : zTok zM (zM 51).1.cls (zM 51).1.name (zM 51).2.1 (zM 51).2.2.2.2.1 tb_X10_init_0 := zTok_of [56, 57, 58, 59, 60, 36, 61, 62, 36, 63, 222, 223, 224, 82, 83, 37, 84, 85, 37, 86, 225, 106, 226, 108, 109, 38, 110, 111, 38, 112, 227, 228, 105, 229, 230, 119, 120, 39] [107] (by decide +kernel) (by decide +kernel) (by decide +kernel) (by decide +kernel) (by decide +kernel) (by decide +kernel)
set_option maxRecDepth 100000 in
theorem tk_X10_init_1 : zTok zM (zM 51).1.cls (zM 51).1.name (zM 51).2.1 (zM 51).2.2.2.2.1 tb_X10_init_1 := zTok_of [121, 122, 39, 123, 231, 160, 161, 40, 162, 163, 40, 164, 232, 191, 192, 42, 193, 194, 42, 195, 233, 226, 106, 205, 43, 206, 207, 43, 208] [] (by decide +kernel) (by decide +kernel) (by decide +kernel) (by decide +kernel) (by decide +kernel) (by decide +kernel)
theorem ok_X10_init : zMok zM 51 := ⟨zTok_app (tk_X10_init_0) tk_X10_init_1, by decide +kernel, ⟨by decide +kernel, by decide +kernel⟩, by decide +kernel, by decide +kernel⟩
set_option maxRecDepth 100000 in
theorem tk_X10_forest_0 : zTok zM (zM 52).1.cls (zM 52).1.name (zM 52).2.1 (zM 52).2.2.2.2.1 tb_X10_forest_0 := zTok_of [228, 263, 265, 0, 35, 266, 267, 268, 35, 269, 270, 271, 272, 43, 273, 286, 288, 1, 35, 289, 290, 291, 36, 292] [] (by decide +kernel) (by decide +kernel) (by decide +kernel) (by decide +kernel) (by decide +kernel) (by decide +kernel)
set_option maxRecDepth 100000 in
theorem tk_X10_forest_1 : zTok zM (zM 52).1.cls (zM 52).1.name (zM 52).2.1 (zM 52).2.2.2.2.1 tb_X10_forest_1 := zTok_of [222, 305, 306, 307, 36, 308, 223, 224, 225, 89, 222, 72] [] (by decide +kernel) (by decide +kernel) (by decide +kernel) (by decide +kernel) (by decide +kernel) (by decide +kernel)
theorem ok_X10_forest : zMok zM 52 := ⟨zTok_app (tk_X10_forest_0) tk_X10_forest_1, by decide +kernel, ⟨by decide +kernel, by decide +kernel⟩, by decide +kernel, by decide +kernel⟩
set_option maxRecDepth 100000 in
theorem tk_X10_ofTale_0 : zTok zM (zM 53).1.cls (zM 53).1.name (zM 53).2.1 (zM 53).2.2.2.2.1 tb_X10_ofTale := zTok_of [222, 378, 379, 380, 36, 381, 382, 385, 386, 387, 46, 388, 383, 392, 382, 385, 389, 390, 47, 391, 383, 392, 382, 383, 384, 45, 392, 334, 334, 334, 338, 338, 338, 340, 340, 340, 344, 344, 344, 223, 393, 396, 397, 398, 46, 399, 394, 408, 393, 396, 403, 404, 47, 405, 394, 408, 393, 394, 395, 45, 408] [] (by decide +kernel) (by decide +kernel) (by decide +kernel) (by decide +kernel) (by decide +kernel) (by decide +kernel)
theorem ok_X10_ofTale : zMok zM 53 := ⟨tk_X10_ofTale_0, by decide +kernel, ⟨by decide +kernel, by decide +kernel⟩, by decide +kernel, by decide +kernel⟩
set_option maxRecDepth 100000 in
theorem tk_X10_know_0 : zTok zM (zM 54).1.cls (zM 54).1.name (zM 54).2.1 (zM 54).2.2.2.2.1 tb_X10_know := zTok_of [267, 268, 35, 269, 222, 72, 223, 421, 401, 35, 402, 223, 223] [] (by decide +kernel) (by decide +kernel) (by decide +kernel) (by decide +kernel) (by decide +kernel) (by decide +kernel)
theorem ok_X10_know : zMok zM 54 := ⟨tk_X10_know_0, by decide +kernel, ⟨by decide +kernel, by decide +kernel⟩, by decide +kernel, by decide +kernel⟩
set_option maxRecDepth 100000 in
theorem tk_X10_believe_0 : zTok zM (zM 55).1.cls (zM 55).1.name (zM 55).2.1 (zM 55).2.2.2.2.1 tb_X10_believe := zTok_of [267, 268, 35, 269, 222, 72, 224, 421, 401, 35, 402, 224, 224] [] (by decide +kernel) (by decide +kernel) (by decide +kernel) (by decide +kernel) (by decide +kernel) (by decide +kernel)
theorem ok_X10_believe : zMok zM 55 := ⟨tk_X10_believe_0, by decide +kernel, ⟨by decide +kernel, by decide +kernel⟩, by decide +kernel, by decide +kernel⟩
set_option maxRecDepth 100000 in
theorem tk_X10_night_0 : zTok zM (zM 56).1.cls (zM 56).1.name (zM 56).2.1 (zM 56).2.2.2.2.1 tb_X10_night := zTok_of [430, 432, 2, 35, 433, 223, 435, 437, 3, 35, 438, 231, 127, 231, 130, 231, 132, 231, 135] [] (by decide +kernel) (by decide +kernel) (by decide +kernel) (by decide +kernel) (by decide +kernel) (by decide +kernel)
theorem ok_X10_night : zMok zM 56 := ⟨tk_X10_night_0, by decide +kernel, ⟨by decide +kernel, by decide +kernel⟩, by decide +kernel, by decide +kernel⟩
set_option maxRecDepth 100000 in
theorem tk_X10_comes_0 : zTok zM (zM 57).1.cls (zM 57).1.name (zM 57).2.1 (zM 57).2.2.2.2.1 tb_X10_comes := zTok_of [430, 432, 2, 35, 433, 223, 435, 437, 3, 35, 438, 231, 139] [] (by decide +kernel) (by decide +kernel) (by decide +kernel) (by decide +kernel) (by decide +kernel) (by decide +kernel)
theorem ok_X10_comes : zMok zM 57 := ⟨tk_X10_comes_0, by decide +kernel, ⟨by decide +kernel, by decide +kernel⟩, by decide +kernel, by decide +kernel⟩
set_option maxRecDepth 100000 in
theorem tk_X10_takeOrder_0 : zTok zM (zM 58).1.cls (zM 58).1.name (zM 58).2.1 (zM 58).2.2.2.2.1 tb_X10_takeOrder_0 := zTok_of [228, 263, 265, 0, 35, 266, 267, 268, 35, 269, 267, 268, 35, 269, 222, 72, 270, 271, 272, 43, 273, 286, 288, 1, 35, 289] [] (by decide +kernel) (by decide +kernel) (by decide +kernel) (by decide +kernel) (by decide +kernel) (by decide +kernel)
set_option maxRecDepth 100000 in
theorem tk_X10_takeOrder_1 : zTok zM (zM 58).1.cls (zM 58).1.name (zM 58).2.1 (zM 58).2.2.2.2.1 tb_X10_takeOrder_1 := zTok_of [229, 434, 294, 295, 43, 296, 222, 229, 378, 379, 380, 36, 381, 230] [] (by decide +kernel) (by decide +kernel) (by decide +kernel) (by decide +kernel) (by decide +kernel) (by decide +kernel)
theorem ok_X10_takeOrder : zMok zM 58 := ⟨zTok_app (tk_X10_takeOrder_0) tk_X10_takeOrder_1, by decide +kernel, ⟨by decide +kernel, by decide +kernel⟩, by decide +kernel, by decide +kernel⟩
set_option maxRecDepth 100000 in
theorem tk_X10_passNight_0 : zTok zM (zM 59).1.cls (zM 59).1.name (zM 59).2.1 (zM 59).2.2.2.2.1 tb_X10_passNight := zTok_of [231, 222, 69, 224, 439, 440, 441, 39, 442, 230, 231, 222, 229, 378, 379, 380, 36, 381, 443, 444, 445, 39, 446] [] (by decide +kernel) (by decide +kernel) (by decide +kernel) (by decide +kernel) (by decide +kernel) (by decide +kernel)
theorem ok_X10_passNight : zMok zM 59 := ⟨tk_X10_passNight_0, by decide +kernel, ⟨by decide +kernel, by decide +kernel⟩, by decide +kernel, by decide +kernel⟩
set_option maxRecDepth 100000 in
theorem tk_X10_never_0 : zTok zM (zM 60).1.cls (zM 60).1.name (zM 60).2.1 (zM 60).2.2.2.2.1 tb_X10_never_0 := zTok_of [267, 268, 35, 269, 267, 268, 35, 269, 222, 72, 231, 222, 69, 223, 224, 439, 440, 441, 39, 442, 232, 222, 231, 466, 467, 468, 40, 469, 232, 174] [] (by decide +kernel) (by decide +kernel) (by decide +kernel) (by decide +kernel) (by decide +kernel) (by decide +kernel)
set_option maxRecDepth 100000 in
theorem tk_X10_never_1 : zTok zM (zM 60).1.cls (zM 60).1.name (zM 60).2.1 (zM 60).2.2.2.2.1 tb_X10_never_1 := zTok_of [232, 174, 232, 176] [] (by decide +kernel) (by decide +kernel) (by decide +kernel) (by decide +kernel) (by decide +kernel) (by decide +kernel)
theorem ok_X10_never : zMok zM 60 := ⟨zTok_app (tk_X10_never_0) tk_X10_never_1, by decide +kernel, ⟨by decide +kernel, by decide +kernel⟩, by decide +kernel, by decide +kernel⟩
set_option maxRecDepth 100000 in
theorem tk_X10_study_0 : zTok zM (zM 61).1.cls (zM 61).1.name (zM 61).2.1 (zM 61).2.2.2.2.1 tb_X10_study_0 := zTok_of [430, 432, 2, 35, 433, 490, 491, 49, 492, 223, 435, 437, 3, 35, 438, 231, 139] [] (by decide +kernel) (by decide +kernel) (by decide +kernel) (by decide +kernel) (by decide +kernel) (by decide +kernel)
set_option maxRecDepth 100000 in
theorem tk_X10_study_1 : zTok zM (zM 61).1.cls (zM 61).1.name (zM 61).2.1 (zM 61).2.2.2.2.1 tb_X10_study_1 := zTok_of [] [] (by decide +kernel) (by decide +kernel) (by decide +kernel) (by decide +kernel) (by decide +kernel) (by decide +kernel)
theorem ok_X10_study : zMok zM 61 := ⟨zTok_app (tk_X10_study_0) tk_X10_study_1, by decide +kernel, ⟨by decide +kernel, by decide +kernel⟩, by decide +kernel, by decide +kernel⟩
set_option maxRecDepth 100000 in
theorem tk_X10_game_0 : zTok zM (zM 62).1.cls (zM 62).1.name (zM 62).2.1 (zM 62).2.2.2.2.1 tb_X10_game := zTok_of [267, 268, 35, 269, 222, 72, 231, 222, 69, 223, 224, 439, 440, 441, 39, 442, 233, 222, 231, 500, 501, 502, 42, 503] [] (by decide +kernel) (by decide +kernel) (by decide +kernel) (by decide +kernel) (by decide +kernel) (by decide +kernel)
theorem ok_X10_game : zMok zM 62 := ⟨tk_X10_game_0, by decide +kernel, ⟨by decide +kernel, by decide +kernel⟩, by decide +kernel, by decide +kernel⟩
set_option maxRecDepth 100000 in
theorem tk_X10_porter_0 : zTok zM (zM 63).1.cls (zM 63).1.name (zM 63).2.1 (zM 63).2.2.2.2.1 tb_X10_porter_0 := zTok_of [222, 378, 379, 380, 36, 381, 267, 268, 35, 269, 267, 268, 35, 269, 523, 524, 527, 528, 529, 46, 530, 525, 533, 524, 527, 532, 529, 46, 530, 525, 533, 524, 525, 526, 45, 533] [] (by decide +kernel) (by decide +kernel) (by decide +kernel) (by decide +kernel) (by decide +kernel) (by decide +kernel)
set_option maxRecDepth 100000 in
theorem tk_X10_porter_1 : zTok zM (zM 63).1.cls (zM 63).1.name (zM 63).2.1 (zM 63).2.2.2.2.1 tb_X10_porter_1 := zTok_of [] [] (by decide +kernel) (by decide +kernel) (by decide +kernel) (by decide +kernel) (by decide +kernel) (by decide +kernel)
theorem ok_X10_porter : zMok zM 63 := ⟨zTok_app (tk_X10_porter_0) tk_X10_porter_1, by decide +kernel, ⟨by decide +kernel, by decide +kernel⟩, by decide +kernel, by decide +kernel⟩
set_option maxRecDepth 100000 in
theorem tk_X10_reading_0 : zTok zM (zM 64).1.cls (zM 64).1.name (zM 64).2.1 (zM 64).2.2.2.2.1 tb_X10_reading := zTok_of [222, 378, 379, 380, 36, 381, 222, 378, 379, 380, 36, 381, 267, 268, 35, 269, 225, 538, 539, 540, 37, 541] [] (by decide +kernel) (by decide +kernel) (by decide +kernel) (by decide +kernel) (by decide +kernel) (by decide +kernel)
theorem ok_X10_reading : zMok zM 64 := ⟨tk_X10_reading_0, by decide +kernel, ⟨by decide +kernel, by decide +kernel⟩, by decide +kernel, by decide +kernel⟩
set_option maxRecDepth 100000 in
theorem tk_X10_back_0 : zTok zM (zM 65).1.cls (zM 65).1.name (zM 65).2.1 (zM 65).2.2.2.2.1 tb_X10_back := zTok_of [225, 89, 267, 268, 35, 269, 225, 225, 89, 89, 225, 89] [] (by decide +kernel) (by decide +kernel) (by decide +kernel) (by decide +kernel) (by decide +kernel) (by decide +kernel)
theorem ok_X10_back : zMok zM 65 := ⟨tk_X10_back_0, by decide +kernel, ⟨by decide +kernel, by decide +kernel⟩, by decide +kernel, by decide +kernel⟩
set_option maxRecDepth 100000 in
theorem tk_X10_fits_0 : zTok zM (zM 66).1.cls (zM 66).1.name (zM 66).2.1 (zM 66).2.2.2.2.1 tb_X10_fits_0 := zTok_of [267, 268, 35, 269, 222, 72, 550, 552, 8, 35, 553] [] (by decide +kernel) (by decide +kernel) (by decide +kernel) (by decide +kernel) (by decide +kernel) (by decide +kernel)
set_option maxRecDepth 100000 in
theorem tk_X10_fits_1 : zTok zM (zM 66).1.cls (zM 66).1.name (zM 66).2.1 (zM 66).2.2.2.2.1 tb_X10_fits_1 := zTok_of [] [] (by decide +kernel) (by decide +kernel) (by decide +kernel) (by decide +kernel) (by decide +kernel) (by decide +kernel)
theorem ok_X10_fits : zMok zM 66 := ⟨zTok_app (tk_X10_fits_0) tk_X10_fits_1, by decide +kernel, ⟨by decide +kernel, by decide +kernel⟩, by decide +kernel, by decide +kernel⟩
set_option maxRecDepth 100000 in
theorem tk_X10_fitsReadings_0 : zTok zM (zM 67).1.cls (zM 67).1.name (zM 67).2.1 (zM 67).2.2.2.2.1 tb_X10_fitsReadings_0 := zTok_of [225, 89, 231, 222, 69, 224, 439, 440, 441, 39, 442, 231, 222, 225, 91, 378, 379, 380, 36, 381, 443, 444, 445, 39, 446, 231, 222, 225, 93] [] (by decide +kernel) (by decide +kernel) (by decide +kernel) (by decide +kernel) (by decide +kernel) (by decide +kernel)
set_option maxRecDepth 100000 in
theorem tk_X10_fitsReadings_1 : zTok zM (zM 67).1.cls (zM 67).1.name (zM 67).2.1 (zM 67).2.2.2.2.1 tb_X10_fitsReadings_1 := zTok_of [378, 379, 380, 36, 381, 443, 444, 445, 39, 446, 231, 127, 225, 95] [] (by decide +kernel) (by decide +kernel) (by decide +kernel) (by decide +kernel) (by decide +kernel) (by decide +kernel)
theorem ok_X10_fitsReadings : zMok zM 67 := ⟨zTok_app (tk_X10_fitsReadings_0) tk_X10_fitsReadings_1, by decide +kernel, ⟨by decide +kernel, by decide +kernel⟩, by decide +kernel, by decide +kernel⟩
end
section
set_option maxRecDepth 100000 in
theorem tk_X10_sheet_0 : zTok zM (zM 68).1.cls (zM 68).1.name (zM 68).2.1 (zM 68).2.2.2.2.1 tb_X10_sheet := zTok_of [228, 263, 265, 0, 35, 266, 267, 268, 35, 269, 286, 288, 1, 35, 289, 558, 559, 560, 43, 561] [] (by decide +kernel) (by decide +kernel) (by decide +kernel) (by decide +kernel) (by decide +kernel) (by decide +kernel)
theorem ok_X10_sheet : zMok zM 68 := ⟨tk_X10_sheet_0, by decide +kernel, ⟨by decide +kernel, by decide +kernel⟩, by decide +kernel, by decide +kernel⟩
set_option maxRecDepth 100000 in
theorem tk_X10_lose_0 : zTok zM (zM 69).1.cls (zM 69).1.name (zM 69).2.1 (zM 69).2.2.2.2.1 tb_X10_lose := zTok_of [263, 265, 0, 35, 266, 571, 279, 280, 43, 281, 572, 573, 574, 43, 575] [] (by decide +kernel) (by decide +kernel) (by decide +kernel) (by decide +kernel) (by decide +kernel) (by decide +kernel)
theorem ok_X10_lose : zMok zM 69 := ⟨tk_X10_lose_0, by decide +kernel, ⟨by decide +kernel, by decide +kernel⟩, by decide +kernel, by decide +kernel⟩
set_option maxRecDepth 100000 in
theorem tk_X10_put_0 : zTok zM (zM 70).1.cls (zM 70).1.name (zM 70).2.1 (zM 70).2.2.2.2.1 tb_X10_put := zTok_of [228, 263, 265, 0, 35, 266, 571, 279, 280, 43, 281, 286, 288, 1, 35, 289, 580, 298, 299, 43, 300, 286, 288, 1, 35, 289, 581, 582, 583, 43, 584] [] (by decide +kernel) (by decide +kernel) (by decide +kernel) (by decide +kernel) (by decide +kernel) (by decide +kernel)
theorem ok_X10_put : zMok zM 70 := ⟨tk_X10_put_0, by decide +kernel, ⟨by decide +kernel, by decide +kernel⟩, by decide +kernel, by decide +kernel⟩
set_option maxRecDepth 100000 in
theorem tk_X10_cell_0 : zTok zM (zM 71).1.cls (zM 71).1.name (zM 71).2.1 (zM 71).2.2.2.2.1 tb_X10_cell := zTok_of [228, 263, 265, 0, 35, 266, 267, 268, 35, 269, 523, 589, 275, 276, 43, 277, 228, 228, 523, 580, 298, 299, 43, 300, 228, 523, 434, 294, 295, 43, 296] [] (by decide +kernel) (by decide +kernel) (by decide +kernel) (by decide +kernel) (by decide +kernel) (by decide +kernel)
theorem ok_X10_cell : zMok zM 71 := ⟨tk_X10_cell_0, by decide +kernel, ⟨by decide +kernel, by decide +kernel⟩, by decide +kernel, by decide +kernel⟩
set_option maxRecDepth 100000 in
theorem tk_X10_copy_0 : zTok zM (zM 72).1.cls (zM 72).1.name (zM 72).2.1 (zM 72).2.2.2.2.1 tb_X10_copy_0 := zTok_of [228, 263, 265, 0, 35, 266, 263, 265, 0, 35, 266, 571, 279, 280, 43, 281, 571, 279, 280, 43, 281, 286, 288, 1, 35, 289, 211, 211, 286, 288, 1, 35, 289, 594, 283, 284, 43, 285] [] (by decide +kernel) (by decide +kernel) (by decide +kernel) (by decide +kernel) (by decide +kernel) (by decide +kernel)
set_option maxRecDepth 100000 in
theorem tk_X10_copy_1 : zTok zM (zM 72).1.cls (zM 72).1.name (zM 72).2.1 (zM 72).2.2.2.2.1 tb_X10_copy_1 := zTok_of [594, 283, 284, 43, 285, 286, 288, 1, 35, 289, 214, 214, 595, 482, 481, 48] [] (by decide +kernel) (by decide +kernel) (by decide +kernel) (by decide +kernel) (by decide +kernel) (by decide +kernel)
theorem ok_X10_copy : zMok zM 72 := ⟨zTok_app (tk_X10_copy_0) tk_X10_copy_1, by decide +kernel, ⟨by decide +kernel, by decide +kernel⟩, by decide +kernel, by decide +kernel⟩
set_option maxRecDepth 100000 in
theorem tk_X10_tell_0 : zTok zM (zM 73).1.cls (zM 73).1.name (zM 73).2.1 (zM 73).2.2.2.2.1 tb_X10_tell := zTok_of [222, 378, 379, 380, 36, 381, 227, 600, 603, 604, 605, 46, 606, 601, 624, 600, 603, 612, 613, 47, 614, 601, 624, 600, 601, 602, 45, 624] [] (by decide +kernel) (by decide +kernel) (by decide +kernel) (by decide +kernel) (by decide +kernel) (by decide +kernel)
theorem ok_X10_tell : zMok zM 73 := ⟨tk_X10_tell_0, by decide +kernel, ⟨by decide +kernel, by decide +kernel⟩, by decide +kernel, by decide +kernel⟩
set_option maxRecDepth 100000 in
theorem tk_X10_whisper_0 : zTok zM (zM 74).1.cls (zM 74).1.name (zM 74).2.1 (zM 74).2.2.2.2.1 tb_X10_whisper := zTok_of [222, 378, 379, 380, 36, 381, 227, 630, 633, 634, 631, 45, 638, 630, 633, 635, 636, 47, 637, 631, 638, 630, 631, 632, 45, 638] [] (by decide +kernel) (by decide +kernel) (by decide +kernel) (by decide +kernel) (by decide +kernel) (by decide +kernel)
theorem ok_X10_whisper : zMok zM 74 := ⟨tk_X10_whisper_0, by decide +kernel, ⟨by decide +kernel, by decide +kernel⟩, by decide +kernel, by decide +kernel⟩
set_option maxRecDepth 100000 in
theorem tk_X10_as_0 : zTok zM (zM 75).1.cls (zM 75).1.name (zM 75).2.1 (zM 75).2.2.2.2.1 tb_X10_as := zTok_of [228, 222, 378, 379, 380, 36, 381, 267, 268, 35, 269, 643, 644, 35, 645, 286, 288, 1, 35, 289] [] (by decide +kernel) (by decide +kernel) (by decide +kernel) (by decide +kernel) (by decide +kernel) (by decide +kernel)
theorem ok_X10_as : zMok zM 75 := ⟨tk_X10_as_0, by decide +kernel, ⟨by decide +kernel, by decide +kernel⟩, by decide +kernel, by decide +kernel⟩
set_option maxRecDepth 100000 in
theorem tk_X10_trace_0 : zTok zM (zM 76).1.cls (zM 76).1.name (zM 76).2.1 (zM 76).2.2.2.2.1 tb_X10_trace := zTok_of [227, 115] [] (by decide +kernel) (by decide +kernel) (by decide +kernel) (by decide +kernel) (by decide +kernel) (by decide +kernel)
theorem ok_X10_trace : zMok zM 76 := ⟨tk_X10_trace_0, by decide +kernel, ⟨by decide +kernel, by decide +kernel⟩, by decide +kernel, by decide +kernel⟩
set_option maxRecDepth 100000 in
theorem tk_X10_fault_0 : zTok zM (zM 77).1.cls (zM 77).1.name (zM 77).2.1 (zM 77).2.2.2.2.1 tb_X10_fault := zTok_of [228] [] (by decide +kernel) (by decide +kernel) (by decide +kernel) (by decide +kernel) (by decide +kernel) (by decide +kernel)
theorem ok_X10_fault : zMok zM 77 := ⟨tk_X10_fault_0, by decide +kernel, ⟨by decide +kernel, by decide +kernel⟩, by decide +kernel, by decide +kernel⟩
set_option maxRecDepth 100000 in
theorem tk_X10_many_0 : zTok zM (zM 78).1.cls (zM 78).1.name (zM 78).2.1 (zM 78).2.2.2.2.1 tb_X10_many := zTok_of [222, 72, 222, 69, 223, 224, 225, 89] [] (by decide +kernel) (by decide +kernel) (by decide +kernel) (by decide +kernel) (by decide +kernel) (by decide +kernel)
theorem ok_X10_many : zMok zM 78 := ⟨tk_X10_many_0, by decide +kernel, ⟨by decide +kernel, by decide +kernel⟩, by decide +kernel, by decide +kernel⟩
set_option maxRecDepth 100000 in
theorem tk_X10_sheetAt_0 : zTok zM (zM 79).1.cls (zM 79).1.name (zM 79).2.1 (zM 79).2.2.2.2.1 tb_X10_sheetAt := zTok_of [267, 268, 35, 269, 226] [] (by decide +kernel) (by decide +kernel) (by decide +kernel) (by decide +kernel) (by decide +kernel) (by decide +kernel)
theorem ok_X10_sheetAt : zMok zM 79 := ⟨tk_X10_sheetAt_0, by decide +kernel, ⟨by decide +kernel, by decide +kernel⟩, by decide +kernel, by decide +kernel⟩
set_option maxRecDepth 100000 in
theorem tk_X10_failing_0 : zTok zM (zM 80).1.cls (zM 80).1.name (zM 80).2.1 (zM 80).2.2.2.2.1 tb_X10_failing := zTok_of [228] [] (by decide +kernel) (by decide +kernel) (by decide +kernel) (by decide +kernel) (by decide +kernel) (by decide +kernel)
theorem ok_X10_failing : zMok zM 80 := ⟨tk_X10_failing_0, by decide +kernel, ⟨by decide +kernel, by decide +kernel⟩, by decide +kernel, by decide +kernel⟩
set_option maxRecDepth 100000 in
theorem tk_X10_isWithin_0 : zTok zM (zM 81).1.cls (zM 81).1.name (zM 81).2.1 (zM 81).2.2.2.2.1 tb_X10_isWithin := zTok_of [] [] (by decide +kernel) (by decide +kernel) (by decide +kernel) (by decide +kernel) (by decide +kernel) (by decide +kernel)
theorem ok_X10_isWithin : zMok zM 81 := ⟨tk_X10_isWithin_0, by decide +kernel, ⟨by decide +kernel, by decide +kernel⟩, by decide +kernel, by decide +kernel⟩
set_option maxRecDepth 100000 in
theorem tk_X10_has_0 : zTok zM (zM 82).1.cls (zM 82).1.name (zM 82).2.1 (zM 82).2.2.2.2.1 tb_X10_has := zTok_of [] [] (by decide +kernel) (by decide +kernel) (by decide +kernel) (by decide +kernel) (by decide +kernel) (by decide +kernel)
theorem ok_X10_has : zMok zM 82 := ⟨tk_X10_has_0, by decide +kernel, ⟨by decide +kernel, by decide +kernel⟩, by decide +kernel, by decide +kernel⟩
set_option maxRecDepth 100000 in
theorem tk_X10_isOfKind_0 : zTok zM (zM 83).1.cls (zM 83).1.name (zM 83).2.1 (zM 83).2.2.2.2.1 tb_X10_isOfKind := zTok_of [646, 646, 646, 647, 647, 647] [1029] (by decide +kernel) (by decide +kernel) (by decide +kernel) (by decide +kernel) (by decide +kernel) (by decide +kernel)
theorem ok_X10_isOfKind : zMok zM 83 := ⟨tk_X10_isOfKind_0, by decide +kernel, ⟨by decide +kernel, by decide +kernel⟩, by decide +kernel, by decide +kernel⟩
set_option maxRecDepth 100000 in
theorem tk_X10_newNights_0 : zTok zM (zM 84).1.cls (zM 84).1.name (zM 84).2.1 (zM 84).2.2.2.2.1 tb_X10_newNights := zTok_of [169, 170, 41, 171, 119, 119, 120, 39, 121, 122, 39, 123] [172] (by decide +kernel) (by decide +kernel) (by decide +kernel) (by decide +kernel) (by decide +kernel) (by decide +kernel)
theorem ok_X10_newNights : zMok zM 84 := ⟨tk_X10_newNights_0, by decide +kernel, ⟨by decide +kernel, by decide +kernel⟩, by decide +kernel, by decide +kernel⟩
set_option maxRecDepth 100000 in
theorem tk_X11_init_0 : zTok zM (zM 85).1.cls (zM 85).1.name (zM 85).2.1 (zM 85).2.2.2.2.1 tb_X11_init_0 := zTok_of [665, 57, 58, 105, 669, 105, 670, 105, 671, 105, 672, 105, 673, 105, 679, 105, 680, 105, 681, 105, 682] [] (by decide +kernel) (by decide +kernel) (by decide +kernel) (by decide +kernel) (by decide +kernel) (by decide +kernel)
set_option maxRecDepth 100000 in
theorem tk_X11_init_1 : zTok zM (zM 85).1.cls (zM 85).1.name (zM 85).2.1 (zM 85).2.2.2.2.1 tb_X11_init_1 := zTok_of [105, 683, 105, 690, 105, 691, 105, 693, 105, 694, 105, 695, 105, 696, 105, 697, 105, 698, 105, 699] [] (by decide +kernel) (by decide +kernel) (by decide +kernel) (by decide +kernel) (by decide +kernel) (by decide +kernel)
set_option maxRecDepth 100000 in
theorem tk_X11_init_2 : zTok zM (zM 85).1.cls (zM 85).1.name (zM 85).2.1 (zM 85).2.2.2.2.1 tb_X11_init_2 := zTok_of [105, 701, 105, 702, 105, 703, 105, 704, 105, 705, 105, 706, 105, 707, 704] [] (by decide +kernel) (by decide +kernel) (by decide +kernel) (by decide +kernel) (by decide +kernel) (by decide +kernel)
theorem ok_X11_init : zMok zM 85 := ⟨zTok_app (zTok_app (tk_X11_init_0) tk_X11_init_1) tk_X11_init_2, by decide +kernel, ⟨by decide +kernel, by decide +kernel⟩, by decide +kernel, by decide +kernel⟩
set_option maxRecDepth 100000 in
theorem tk_X11_in_0 : zTok zM (zM 86).1.cls (zM 86).1.name (zM 86).2.1 (zM 86).2.2.2.2.1 tb_X11_in := zTok_of [] [] (by decide +kernel) (by decide +kernel) (by decide +kernel) (by decide +kernel) (by decide +kernel) (by decide +kernel)
theorem ok_X11_in : zMok zM 86 := ⟨tk_X11_in_0, by decide +kernel, ⟨by decide +kernel, by decide +kernel⟩, by decide +kernel, by decide +kernel⟩
set_option maxRecDepth 100000 in
theorem tk_X11_lost_0 : zTok zM (zM 87).1.cls (zM 87).1.name (zM 87).2.1 (zM 87).2.2.2.2.1 tb_X11_lost := zTok_of [945] [] (by decide +kernel) (by decide +kernel) (by decide +kernel) (by decide +kernel) (by decide +kernel) (by decide +kernel)
theorem ok_X11_lost : zMok zM 87 := ⟨tk_X11_lost_0, by decide +kernel, ⟨by decide +kernel, by decide +kernel⟩, by decide +kernel, by decide +kernel⟩
set_option maxRecDepth 100000 in
theorem tk_X11_isIn_0 : zTok zM (zM 88).1.cls (zM 88).1.name (zM 88).2.1 (zM 88).2.2.2.2.1 tb_X11_isIn := zTok_of [] [] (by decide +kernel) (by decide +kernel) (by decide +kernel) (by decide +kernel) (by decide +kernel) (by decide +kernel)
theorem ok_X11_isIn : zMok zM 88 := ⟨tk_X11_isIn_0, by decide +kernel, ⟨by decide +kernel, by decide +kernel⟩, by decide +kernel, by decide +kernel⟩
set_option maxRecDepth 100000 in
theorem tk_X11_bits_0 : zTok zM (zM 89).1.cls (zM 89).1.name (zM 89).2.1 (zM 89).2.2.2.2.1 tb_X11_bits := zTok_of [] [] (by decide +kernel) (by decide +kernel) (by decide +kernel) (by decide +kernel) (by decide +kernel) (by decide +kernel)
theorem ok_X11_bits : zMok zM 89 := ⟨tk_X11_bits_0, by decide +kernel, ⟨by decide +kernel, by decide +kernel⟩, by decide +kernel, by decide +kernel⟩
set_option maxRecDepth 100000 in
theorem tk_X11_told_0 : zTok zM (zM 90).1.cls (zM 90).1.name (zM 90).2.1 (zM 90).2.2.2.2.1 tb_X11_told := zTok_of [] [] (by decide +kernel) (by decide +kernel) (by decide +kernel) (by decide +kernel) (by decide +kernel) (by decide +kernel)
theorem ok_X11_told : zMok zM 90 := ⟨tk_X11_told_0, by decide +kernel, ⟨by decide +kernel, by decide +kernel⟩, by decide +kernel, by decide +kernel⟩
set_option maxRecDepth 100000 in
theorem tk_X11_refused_0 : zTok zM (zM 91).1.cls (zM 91).1.name (zM 91).2.1 (zM 91).2.2.2.2.1 tb_X11_refused := zTok_of [666] [] (by decide +kernel) (by decide +kernel) (by decide +kernel) (by decide +kernel) (by decide +kernel) (by decide +kernel)
theorem ok_X11_refused : zMok zM 91 := ⟨tk_X11_refused_0, by decide +kernel, ⟨by decide +kernel, by decide +kernel⟩, by decide +kernel, by decide +kernel⟩
set_option maxRecDepth 100000 in
theorem tk_X11_failed_0 : zTok zM (zM 92).1.cls (zM 92).1.name (zM 92).2.1 (zM 92).2.2.2.2.1 tb_X11_failed := zTok_of [666] [] (by decide +kernel) (by decide +kernel) (by decide +kernel) (by decide +kernel) (by decide +kernel) (by decide +kernel)
theorem ok_X11_failed : zMok zM 92 := ⟨tk_X11_failed_0, by decide +kernel, ⟨by decide +kernel, by decide +kernel⟩, by decide +kernel, by decide +kernel⟩
set_option maxRecDepth 100000 in
theorem tk_X11_failedLong_0 : zTok zM (zM 93).1.cls (zM 93).1.name (zM 93).2.1 (zM 93).2.2.2.2.1 tb_X11_failedLong := zTok_of [666, 942, 943, 44, 944] [] (by decide +kernel) (by decide +kernel) (by decide +kernel) (by decide +kernel) (by decide +kernel) (by decide +kernel)
theorem ok_X11_failedLong : zMok zM 93 := ⟨tk_X11_failedLong_0, by decide +kernel, ⟨by decide +kernel, by decide +kernel⟩, by decide +kernel, by decide +kernel⟩
set_option maxRecDepth 100000 in
theorem tk_X11_noTale_0 : zTok zM (zM 94).1.cls (zM 94).1.name (zM 94).2.1 (zM 94).2.2.2.2.1 tb_X11_noTale := zTok_of [668, 804, 805, 44, 806] [] (by decide +kernel) (by decide +kernel) (by decide +kernel) (by decide +kernel) (by decide +kernel) (by decide +kernel)
theorem ok_X11_noTale : zMok zM 94 := ⟨tk_X11_noTale_0, by decide +kernel, ⟨by decide +kernel, by decide +kernel⟩, by decide +kernel, by decide +kernel⟩
set_option maxRecDepth 100000 in
theorem tk_X11_codeAt_0 : zTok zM (zM 95).1.cls (zM 95).1.name (zM 95).2.1 (zM 95).2.2.2.2.1 tb_X11_codeAt := zTok_of [676, 706, 676] [] (by decide +kernel) (by decide +kernel) (by decide +kernel) (by decide +kernel) (by decide +kernel) (by decide +kernel)
theorem ok_X11_codeAt : zMok zM 95 := ⟨tk_X11_codeAt_0, by decide +kernel, ⟨by decide +kernel, by decide +kernel⟩, by decide +kernel, by decide +kernel⟩
set_option maxRecDepth 100000 in
theorem tk_X11_figure_0 : zTok zM (zM 96).1.cls (zM 96).1.name (zM 96).2.1 (zM 96).2.2.2.2.1 tb_X11_figure := zTok_of [827, 829, 13, 44, 830, 804, 805, 44, 806, 676, 676] [] (by decide +kernel) (by decide +kernel) (by decide +kernel) (by decide +kernel) (by decide +kernel) (by decide +kernel)
theorem ok_X11_figure : zMok zM 96 := ⟨tk_X11_figure_0, by decide +kernel, ⟨by decide +kernel, by decide +kernel⟩, by decide +kernel, by decide +kernel⟩
set_option maxRecDepth 100000 in
theorem tk_X11_readsTale_0 : zTok zM (zM 97).1.cls (zM 97).1.name (zM 97).2.1 (zM 97).2.2.2.2.1 tb_X11_readsTale_0 := zTok_of [678, 827, 829, 13, 44, 830, 676, 676, 827, 829, 13, 44, 830, 676, 676] [] (by decide +kernel) (by decide +kernel) (by decide +kernel) (by decide +kernel) (by decide +kernel) (by decide +kernel)
set_option maxRecDepth 100000 in
theorem tk_X11_readsTale_1 : zTok zM (zM 97).1.cls (zM 97).1.name (zM 97).2.1 (zM 97).2.2.2.2.1 tb_X11_readsTale_1 := zTok_of [831, 833, 14, 44, 834, 831, 833, 14, 44, 834, 831, 833, 14, 44, 834, 831, 833, 14, 44, 834] [] (by decide +kernel) (by decide +kernel) (by decide +kernel) (by decide +kernel) (by decide +kernel) (by decide +kernel)
set_option maxRecDepth 100000 in
theorem tk_X11_readsTale_2 : zTok zM (zM 97).1.cls (zM 97).1.name (zM 97).2.1 (zM 97).2.2.2.2.1 tb_X11_readsTale_2 := zTok_of [679, 678, 680, 678, 681, 678, 682, 678, 683] [] (by decide +kernel) (by decide +kernel) (by decide +kernel) (by decide +kernel) (by decide +kernel) (by decide +kernel)
set_option maxRecDepth 100000 in
theorem tk_X11_readsTale_3 : zTok zM (zM 97).1.cls (zM 97).1.name (zM 97).2.1 (zM 97).2.2.2.2.1 tb_X11_readsTale_3 := zTok_of [678, 678, 678] [] (by decide +kernel) (by decide +kernel) (by decide +kernel) (by decide +kernel) (by decide +kernel) (by decide +kernel)
theorem ok_X11_readsTale : zMok zM 97 := ⟨zTok_app (zTok_app (zTok_app (tk_X11_readsTale_0) tk_X11_readsTale_1) tk_X11_readsTale_2) tk_X11_readsTale_3, by decide +kernel, ⟨by decide +kernel, by decide +kernel⟩, by decide +kernel, by decide +kernel⟩
set_option maxRecDepth 100000 in
theorem tk_X11_readsForest_0 : zTok zM (zM 98).1.cls (zM 98).1.name (zM 98).2.1 (zM 98).2.2.2.2.1 tb_X11_readsForest_0 := zTok_of [676, 678, 827, 829, 13, 44, 830, 676, 676, 831, 833, 14, 44, 834, 677, 677] [] (by decide +kernel) (by decide +kernel) (by decide +kernel) (by decide +kernel) (by decide +kernel) (by decide +kernel)
set_option maxRecDepth 100000 in
theorem tk_X11_readsForest_1 : zTok zM (zM 98).1.cls (zM 98).1.name (zM 98).2.1 (zM 98).2.2.2.2.1 tb_X11_readsForest_1 := zTok_of [678, 676, 835, 837, 15, 44, 838] [] (by decide +kernel) (by decide +kernel) (by decide +kernel) (by decide +kernel) (by decide +kernel) (by decide +kernel)
theorem ok_X11_readsForest : zMok zM 98 := ⟨zTok_app (tk_X11_readsForest_0) tk_X11_readsForest_1, by decide +kernel, ⟨by decide +kernel, by decide +kernel⟩, by decide +kernel, by decide +kernel⟩
set_option maxRecDepth 100000 in
theorem tk_X11_cellsBarred_0 : zTok zM (zM 99).1.cls (zM 99).1.name (zM 99).2.1 (zM 99).2.2.2.2.1 tb_X11_cellsBarred_0 := zTok_of [704, 705, 816, 818, 11, 44, 819, 704, 816, 818, 11, 44, 819, 816, 818, 11, 44, 819, 704, 820, 821, 44, 822] [] (by decide +kernel) (by decide +kernel) (by decide +kernel) (by decide +kernel) (by decide +kernel) (by decide +kernel)
set_option maxRecDepth 100000 in
theorem tk_X11_cellsBarred_1 : zTok zM (zM 99).1.cls (zM 99).1.name (zM 99).2.1 (zM 99).2.2.2.2.1 tb_X11_cellsBarred_1 := zTok_of [816, 818, 11, 44, 819] [] (by decide +kernel) (by decide +kernel) (by decide +kernel) (by decide +kernel) (by decide +kernel) (by decide +kernel)
theorem ok_X11_cellsBarred : zMok zM 99 := ⟨zTok_app (tk_X11_cellsBarred_0) tk_X11_cellsBarred_1, by decide +kernel, ⟨by decide +kernel, by decide +kernel⟩, by decide +kernel, by decide +kernel⟩
set_option maxRecDepth 100000 in
theorem tk_X11_forest_0 : zTok zM (zM 100).1.cls (zM 100).1.name (zM 100).2.1 (zM 100).2.2.2.2.1 tb_X11_forest_0 := zTok_of [800, 801, 44, 802, 807, 809, 9, 44, 810, 811, 804, 805, 44, 806, 807, 809, 9, 44, 810, 812, 814, 10, 44, 815, 823, 825, 12, 44, 826] [] (by decide +kernel) (by decide +kernel) (by decide +kernel) (by decide +kernel) (by decide +kernel) (by decide +kernel)
set_option maxRecDepth 100000 in
theorem tk_X11_forest_1 : zTok zM (zM 100).1.cls (zM 100).1.name (zM 100).2.1 (zM 100).2.2.2.2.1 tb_X11_forest_1 := zTok_of [676, 807, 809, 9, 44, 810, 677, 667, 678, 668, 668, 669, 679, 670, 680, 671, 681] [] (by decide +kernel) (by decide +kernel) (by decide +kernel) (by decide +kernel) (by decide +kernel) (by decide +kernel)
set_option maxRecDepth 100000 in
theorem tk_X11_forest_2 : zTok zM (zM 100).1.cls (zM 100).1.name (zM 100).2.1 (zM 100).2.2.2.2.1 tb_X11_forest_2 := zTok_of [672, 682, 673, 683, 674, 675, 700, 668, 807, 809, 9, 44, 810] [] (by decide +kernel) (by decide +kernel) (by decide +kernel) (by decide +kernel) (by decide +kernel) (by decide +kernel)
theorem ok_X11_forest : zMok zM 100 := ⟨zTok_app (zTok_app (tk_X11_forest_0) tk_X11_forest_1) tk_X11_forest_2, by decide +kernel, ⟨by decide +kernel, by decide +kernel⟩, by decide +kernel, by decide +kernel⟩
end
section
set_option maxRecDepth 100000 in
theorem tk_X11_hasAnswer_0 : zTok zM (zM 101).1.cls (zM 101).1.name (zM 101).2.1 (zM 101).2.2.2.2.1 tb_X11_hasAnswer_0 := zTok_of [670, 851, 852, 44, 853, 671, 851, 852, 44, 853, 669, 669, 851, 852, 44, 853] [] (by decide +kernel) (by decide +kernel) (by decide +kernel) (by decide +kernel) (by decide +kernel) (by decide +kernel)
set_option maxRecDepth 100000 in
theorem tk_X11_hasAnswer_1 : zTok zM (zM 101).1.cls (zM 101).1.name (zM 101).2.1 (zM 101).2.2.2.2.1 tb_X11_hasAnswer_1 := zTok_of [] [] (by decide +kernel) (by decide +kernel) (by decide +kernel) (by decide +kernel) (by decide +kernel) (by decide +kernel)
theorem ok_X11_hasAnswer : zMok zM 101 := ⟨zTok_app (tk_X11_hasAnswer_0) tk_X11_hasAnswer_1, by decide +kernel, ⟨by decide +kernel, by decide +kernel⟩, by decide +kernel, by decide +kernel⟩
set_option maxRecDepth 100000 in
theorem tk_X11_ofTale_0 : zTok zM (zM 102).1.cls (zM 102).1.name (zM 102).2.1 (zM 102).2.2.2.2.1 tb_X11_ofTale_0 := zTok_of [843, 845, 16, 44, 846, 669, 670, 671, 672, 673, 674, 847, 849, 17, 44, 850] [] (by decide +kernel) (by decide +kernel) (by decide +kernel) (by decide +kernel) (by decide +kernel) (by decide +kernel)
set_option maxRecDepth 100000 in
theorem tk_X11_ofTale_1 : zTok zM (zM 102).1.cls (zM 102).1.name (zM 102).2.1 (zM 102).2.2.2.2.1 tb_X11_ofTale_1 := zTok_of [] [] (by decide +kernel) (by decide +kernel) (by decide +kernel) (by decide +kernel) (by decide +kernel) (by decide +kernel)
theorem ok_X11_ofTale : zMok zM 102 := ⟨zTok_app (tk_X11_ofTale_0) tk_X11_ofTale_1, by decide +kernel, ⟨by decide +kernel, by decide +kernel⟩, by decide +kernel, by decide +kernel⟩
set_option maxRecDepth 100000 in
theorem tk_X11_know_0 : zTok zM (zM 103).1.cls (zM 103).1.name (zM 103).2.1 (zM 103).2.2.2.2.1 tb_X11_know_0 := zTok_of [858, 804, 805, 44, 806, 668, 674, 851, 852, 44, 853, 674, 674, 674] [] (by decide +kernel) (by decide +kernel) (by decide +kernel) (by decide +kernel) (by decide +kernel) (by decide +kernel)
set_option maxRecDepth 100000 in
theorem tk_X11_know_1 : zTok zM (zM 103).1.cls (zM 103).1.name (zM 103).2.1 (zM 103).2.2.2.2.1 tb_X11_know_1 := zTok_of [] [] (by decide +kernel) (by decide +kernel) (by decide +kernel) (by decide +kernel) (by decide +kernel) (by decide +kernel)
theorem ok_X11_know : zMok zM 103 := ⟨zTok_app (tk_X11_know_0) tk_X11_know_1, by decide +kernel, ⟨by decide +kernel, by decide +kernel⟩, by decide +kernel, by decide +kernel⟩
set_option maxRecDepth 100000 in
theorem tk_X11_believe_0 : zTok zM (zM 104).1.cls (zM 104).1.name (zM 104).2.1 (zM 104).2.2.2.2.1 tb_X11_believe_0 := zTok_of [858, 804, 805, 44, 806, 668, 675, 851, 852, 44, 853, 675, 675, 675] [] (by decide +kernel) (by decide +kernel) (by decide +kernel) (by decide +kernel) (by decide +kernel) (by decide +kernel)
set_option maxRecDepth 100000 in
theorem tk_X11_believe_1 : zTok zM (zM 104).1.cls (zM 104).1.name (zM 104).2.1 (zM 104).2.2.2.2.1 tb_X11_believe_1 := zTok_of [] [] (by decide +kernel) (by decide +kernel) (by decide +kernel) (by decide +kernel) (by decide +kernel) (by decide +kernel)
theorem ok_X11_believe : zMok zM 104 := ⟨zTok_app (tk_X11_believe_0) tk_X11_believe_1, by decide +kernel, ⟨by decide +kernel, by decide +kernel⟩, by decide +kernel, by decide +kernel⟩
set_option maxRecDepth 100000 in
theorem tk_X11_beginNight_0 : zTok zM (zM 105).1.cls (zM 105).1.name (zM 105).2.1 (zM 105).2.2.2.2.1 tb_X11_beginNight := zTok_of [684, 685, 686, 687, 688, 689] [] (by decide +kernel) (by decide +kernel) (by decide +kernel) (by decide +kernel) (by decide +kernel) (by decide +kernel)
theorem ok_X11_beginNight : zMok zM 105 := ⟨tk_X11_beginNight_0, by decide +kernel, ⟨by decide +kernel, by decide +kernel⟩, by decide +kernel, by decide +kernel⟩
set_option maxRecDepth 100000 in
theorem tk_X11_goSteps_0 : zTok zM (zM 106).1.cls (zM 106).1.name (zM 106).2.1 (zM 106).2.2.2.2.1 tb_X11_goSteps := zTok_of [684, 684, 684, 667, 689, 689, 667, 684, 684] [] (by decide +kernel) (by decide +kernel) (by decide +kernel) (by decide +kernel) (by decide +kernel) (by decide +kernel)
theorem ok_X11_goSteps : zMok zM 106 := ⟨tk_X11_goSteps_0, by decide +kernel, ⟨by decide +kernel, by decide +kernel⟩, by decide +kernel, by decide +kernel⟩
set_option maxRecDepth 100000 in
theorem tk_X11_goTale_0 : zTok zM (zM 107).1.cls (zM 107).1.name (zM 107).2.1 (zM 107).2.2.2.2.1 tb_X11_goTale_0 := zTok_of [673, 887, 889, 23, 44, 890, 689, 685, 686, 847, 849, 17, 44, 850, 684, 688, 688, 675, 670, 851, 852, 44, 853, 675] [] (by decide +kernel) (by decide +kernel) (by decide +kernel) (by decide +kernel) (by decide +kernel) (by decide +kernel)
set_option maxRecDepth 100000 in
theorem tk_X11_goTale_1 : zTok zM (zM 107).1.cls (zM 107).1.name (zM 107).2.1 (zM 107).2.2.2.2.1 tb_X11_goTale_1 := zTok_of [671, 851, 852, 44, 853, 887, 889, 23, 44, 890] [] (by decide +kernel) (by decide +kernel) (by decide +kernel) (by decide +kernel) (by decide +kernel) (by decide +kernel)
theorem ok_X11_goTale : zMok zM 107 := ⟨zTok_app (tk_X11_goTale_0) tk_X11_goTale_1, by decide +kernel, ⟨by decide +kernel, by decide +kernel⟩, by decide +kernel, by decide +kernel⟩
set_option maxRecDepth 100000 in
theorem tk_X11_goHeard_0 : zTok zM (zM 108).1.cls (zM 108).1.name (zM 108).2.1 (zM 108).2.2.2.2.1 tb_X11_goHeard := zTok_of [689, 883, 885, 22, 44, 886, 685, 672, 685, 686, 686, 687, 687] [] (by decide +kernel) (by decide +kernel) (by decide +kernel) (by decide +kernel) (by decide +kernel) (by decide +kernel)
theorem ok_X11_goHeard : zMok zM 108 := ⟨tk_X11_goHeard_0, by decide +kernel, ⟨by decide +kernel, by decide +kernel⟩, by decide +kernel, by decide +kernel⟩
set_option maxRecDepth 100000 in
theorem tk_X11_goOrder_0 : zTok zM (zM 109).1.cls (zM 109).1.name (zM 109).2.1 (zM 109).2.2.2.2.1 tb_X11_goOrder := zTok_of [875, 877, 20, 44, 878, 706, 879, 881, 21, 44, 882] [] (by decide +kernel) (by decide +kernel) (by decide +kernel) (by decide +kernel) (by decide +kernel) (by decide +kernel)
theorem ok_X11_goOrder : zMok zM 109 := ⟨tk_X11_goOrder_0, by decide +kernel, ⟨by decide +kernel, by decide +kernel⟩, by decide +kernel, by decide +kernel⟩
set_option maxRecDepth 100000 in
theorem tk_X11_orderBarred_0 : zTok zM (zM 110).1.cls (zM 110).1.name (zM 110).2.1 (zM 110).2.2.2.2.1 tb_X11_orderBarred_0 := zTok_of [668, 807, 809, 9, 44, 810, 812, 814, 10, 44, 815, 807, 809, 9, 44, 810, 706] [] (by decide +kernel) (by decide +kernel) (by decide +kernel) (by decide +kernel) (by decide +kernel) (by decide +kernel)
set_option maxRecDepth 100000 in
theorem tk_X11_orderBarred_1 : zTok zM (zM 110).1.cls (zM 110).1.name (zM 110).2.1 (zM 110).2.2.2.2.1 tb_X11_orderBarred_1 := zTok_of [843, 845, 16, 44, 846, 807, 809, 9, 44, 810, 807, 809, 9, 44, 810] [] (by decide +kernel) (by decide +kernel) (by decide +kernel) (by decide +kernel) (by decide +kernel) (by decide +kernel)
theorem ok_X11_orderBarred : zMok zM 110 := ⟨zTok_app (tk_X11_orderBarred_0) tk_X11_orderBarred_1, by decide +kernel, ⟨by decide +kernel, by decide +kernel⟩, by decide +kernel, by decide +kernel⟩
set_option maxRecDepth 100000 in
theorem tk_X11_night_0 : zTok zM (zM 111).1.cls (zM 111).1.name (zM 111).2.1 (zM 111).2.2.2.2.1 tb_X11_night_0 := zTok_of [800, 801, 44, 802, 807, 809, 9, 44, 810, 811, 804, 805, 44, 806, 803, 804, 805, 44, 806, 807, 809, 9, 44, 810, 867, 869, 18, 44, 870] [] (by decide +kernel) (by decide +kernel) (by decide +kernel) (by decide +kernel) (by decide +kernel) (by decide +kernel)
set_option maxRecDepth 100000 in
theorem tk_X11_night_1 : zTok zM (zM 111).1.cls (zM 111).1.name (zM 111).2.1 (zM 111).2.2.2.2.1 tb_X11_night_1 := zTok_of [674, 871, 873, 19, 44, 874, 684, 688, 687, 685] [] (by decide +kernel) (by decide +kernel) (by decide +kernel) (by decide +kernel) (by decide +kernel) (by decide +kernel)
theorem ok_X11_night : zMok zM 111 := ⟨zTok_app (tk_X11_night_0) tk_X11_night_1, by decide +kernel, ⟨by decide +kernel, by decide +kernel⟩, by decide +kernel, by decide +kernel⟩
set_option maxRecDepth 100000 in
theorem tk_X11_comes_0 : zTok zM (zM 112).1.cls (zM 112).1.name (zM 112).2.1 (zM 112).2.2.2.2.1 tb_X11_comes_0 := zTok_of [800, 801, 44, 802, 807, 809, 9, 44, 810, 811, 804, 805, 44, 806, 807, 809, 9, 44, 810, 867, 869, 18, 44, 870, 674, 871, 873, 19, 44, 874, 689] [] (by decide +kernel) (by decide +kernel) (by decide +kernel) (by decide +kernel) (by decide +kernel) (by decide +kernel)
set_option maxRecDepth 100000 in
theorem tk_X11_comes_1 : zTok zM (zM 112).1.cls (zM 112).1.name (zM 112).2.1 (zM 112).2.2.2.2.1 tb_X11_comes_1 := zTok_of [] [] (by decide +kernel) (by decide +kernel) (by decide +kernel) (by decide +kernel) (by decide +kernel) (by decide +kernel)
theorem ok_X11_comes : zMok zM 112 := ⟨zTok_app (tk_X11_comes_0) tk_X11_comes_1, by decide +kernel, ⟨by decide +kernel, by decide +kernel⟩, by decide +kernel, by decide +kernel⟩
set_option maxRecDepth 100000 in
theorem tk_X11_isUsed_0 : zTok zM (zM 113).1.cls (zM 113).1.name (zM 113).2.1 (zM 113).2.2.2.2.1 tb_X11_isUsed := zTok_of [690] [] (by decide +kernel) (by decide +kernel) (by decide +kernel) (by decide +kernel) (by decide +kernel) (by decide +kernel)
theorem ok_X11_isUsed : zMok zM 113 := ⟨tk_X11_isUsed_0, by decide +kernel, ⟨by decide +kernel, by decide +kernel⟩, by decide +kernel, by decide +kernel⟩
set_option maxRecDepth 100000 in
theorem tk_X11_lookAtRow_0 : zTok zM (zM 114).1.cls (zM 114).1.name (zM 114).2.1 (zM 114).2.2.2.2.1 tb_X11_lookAtRow_0 := zTok_of [674, 875, 877, 20, 44, 878, 690, 879, 881, 21, 44, 882, 689, 688, 692, 688, 692, 691, 690] [] (by decide +kernel) (by decide +kernel) (by decide +kernel) (by decide +kernel) (by decide +kernel) (by decide +kernel)
set_option maxRecDepth 100000 in
theorem tk_X11_lookAtRow_1 : zTok zM (zM 114).1.cls (zM 114).1.name (zM 114).2.1 (zM 114).2.2.2.2.1 tb_X11_lookAtRow_1 := zTok_of [] [] (by decide +kernel) (by decide +kernel) (by decide +kernel) (by decide +kernel) (by decide +kernel) (by decide +kernel)
theorem ok_X11_lookAtRow : zMok zM 114 := ⟨zTok_app (tk_X11_lookAtRow_0) tk_X11_lookAtRow_1, by decide +kernel, ⟨by decide +kernel, by decide +kernel⟩, by decide +kernel, by decide +kernel⟩
set_option maxRecDepth 100000 in
theorem tk_X11_seekNever_0 : zTok zM (zM 115).1.cls (zM 115).1.name (zM 115).2.1 (zM 115).2.2.2.2.1 tb_X11_seekNever_0 := zTok_of [692, 690, 690, 690, 668, 690, 906, 908, 25, 44, 909] [] (by decide +kernel) (by decide +kernel) (by decide +kernel) (by decide +kernel) (by decide +kernel) (by decide +kernel)
set_option maxRecDepth 100000 in
theorem tk_X11_seekNever_1 : zTok zM (zM 115).1.cls (zM 115).1.name (zM 115).2.1 (zM 115).2.2.2.2.1 tb_X11_seekNever_1 := zTok_of [910, 912, 26, 44, 913, 690] [] (by decide +kernel) (by decide +kernel) (by decide +kernel) (by decide +kernel) (by decide +kernel) (by decide +kernel)
theorem ok_X11_seekNever : zMok zM 115 := ⟨zTok_app (tk_X11_seekNever_0) tk_X11_seekNever_1, by decide +kernel, ⟨by decide +kernel, by decide +kernel⟩, by decide +kernel, by decide +kernel⟩
set_option maxRecDepth 100000 in
theorem tk_X11_never_0 : zTok zM (zM 116).1.cls (zM 116).1.name (zM 116).2.1 (zM 116).2.2.2.2.1 tb_X11_never_0 := zTok_of [899, 804, 805, 44, 806, 900, 901, 804, 805, 44, 806, 668, 902, 904, 24, 44, 905, 692, 692, 691] [] (by decide +kernel) (by decide +kernel) (by decide +kernel) (by decide +kernel) (by decide +kernel) (by decide +kernel)
set_option maxRecDepth 100000 in
theorem tk_X11_never_1 : zTok zM (zM 116).1.cls (zM 116).1.name (zM 116).2.1 (zM 116).2.2.2.2.1 tb_X11_never_1 := zTok_of [] [] (by decide +kernel) (by decide +kernel) (by decide +kernel) (by decide +kernel) (by decide +kernel) (by decide +kernel)
theorem ok_X11_never : zMok zM 116 := ⟨zTok_app (tk_X11_never_0) tk_X11_never_1, by decide +kernel, ⟨by decide +kernel, by decide +kernel⟩, by decide +kernel, by decide +kernel⟩
set_option maxRecDepth 100000 in
theorem tk_X11_study_0 : zTok zM (zM 117).1.cls (zM 117).1.name (zM 117).2.1 (zM 117).2.2.2.2.1 tb_X11_study_0 := zTok_of [800, 801, 44, 802, 807, 809, 9, 44, 810, 811, 804, 805, 44, 806, 807, 809, 9, 44, 810, 867, 869, 18, 44, 870, 918, 919, 44, 920] [] (by decide +kernel) (by decide +kernel) (by decide +kernel) (by decide +kernel) (by decide +kernel) (by decide +kernel)
set_option maxRecDepth 100000 in
theorem tk_X11_study_1 : zTok zM (zM 117).1.cls (zM 117).1.name (zM 117).2.1 (zM 117).2.2.2.2.1 tb_X11_study_1 := zTok_of [918, 919, 44, 920, 674, 871, 873, 19, 44, 874, 689, 807, 809, 9, 44, 810] [] (by decide +kernel) (by decide +kernel) (by decide +kernel) (by decide +kernel) (by decide +kernel) (by decide +kernel)
theorem ok_X11_study : zMok zM 117 := ⟨zTok_app (tk_X11_study_0) tk_X11_study_1, by decide +kernel, ⟨by decide +kernel, by decide +kernel⟩, by decide +kernel, by decide +kernel⟩
set_option maxRecDepth 100000 in
theorem tk_X11_nextWay_0 : zTok zM (zM 118).1.cls (zM 118).1.name (zM 118).2.1 (zM 118).2.2.2.2.1 tb_X11_nextWay_0 := zTok_of [696, 697, 697, 696, 699, 698, 699, 698] [] (by decide +kernel) (by decide +kernel) (by decide +kernel) (by decide +kernel) (by decide +kernel) (by decide +kernel)
set_option maxRecDepth 100000 in
theorem tk_X11_nextWay_1 : zTok zM (zM 118).1.cls (zM 118).1.name (zM 118).2.1 (zM 118).2.2.2.2.1 tb_X11_nextWay_1 := zTok_of [699, 696, 696, 668, 695, 696, 851, 852, 44, 853, 696, 697] [] (by decide +kernel) (by decide +kernel) (by decide +kernel) (by decide +kernel) (by decide +kernel) (by decide +kernel)
set_option maxRecDepth 100000 in
theorem tk_X11_nextWay_2 : zTok zM (zM 118).1.cls (zM 118).1.name (zM 118).2.1 (zM 118).2.2.2.2.1 tb_X11_nextWay_2 := zTok_of [698, 696, 668] [] (by decide +kernel) (by decide +kernel) (by decide +kernel) (by decide +kernel) (by decide +kernel) (by decide +kernel)
theorem ok_X11_nextWay : zMok zM 118 := ⟨zTok_app (zTok_app (tk_X11_nextWay_0) tk_X11_nextWay_1) tk_X11_nextWay_2, by decide +kernel, ⟨by decide +kernel, by decide +kernel⟩, by decide +kernel, by decide +kernel⟩
set_option maxRecDepth 100000 in
theorem tk_X11_goWay_0 : zTok zM (zM 119).1.cls (zM 119).1.name (zM 119).2.1 (zM 119).2.2.2.2.1 tb_X11_goWay_0 := zTok_of [696, 694, 875, 877, 20, 44, 878, 693, 684, 883, 885, 22, 44, 886, 697, 685, 672, 685, 693] [] (by decide +kernel) (by decide +kernel) (by decide +kernel) (by decide +kernel) (by decide +kernel) (by decide +kernel)
set_option maxRecDepth 100000 in
theorem tk_X11_goWay_1 : zTok zM (zM 119).1.cls (zM 119).1.name (zM 119).2.1 (zM 119).2.2.2.2.1 tb_X11_goWay_1 := zTok_of [684, 694, 685, 695, 695, 696, 699] [] (by decide +kernel) (by decide +kernel) (by decide +kernel) (by decide +kernel) (by decide +kernel) (by decide +kernel)
set_option maxRecDepth 100000 in
theorem tk_X11_goWay_2 : zTok zM (zM 119).1.cls (zM 119).1.name (zM 119).2.1 (zM 119).2.2.2.2.1 tb_X11_goWay_2 := zTok_of [] [] (by decide +kernel) (by decide +kernel) (by decide +kernel) (by decide +kernel) (by decide +kernel) (by decide +kernel)
theorem ok_X11_goWay : zMok zM 119 := ⟨zTok_app (zTok_app (tk_X11_goWay_0) tk_X11_goWay_1) tk_X11_goWay_2, by decide +kernel, ⟨by decide +kernel, by decide +kernel⟩, by decide +kernel, by decide +kernel⟩
end
section
set_option maxRecDepth 100000 in
theorem tk_X11_play_0 : zTok zM (zM 120).1.cls (zM 120).1.name (zM 120).2.1 (zM 120).2.2.2.2.1 tb_X11_play_0 := zTok_of [693, 694, 674, 695, 696, 699, 693, 667] [] (by decide +kernel) (by decide +kernel) (by decide +kernel) (by decide +kernel) (by decide +kernel) (by decide +kernel)
set_option maxRecDepth 100000 in
theorem tk_X11_play_1 : zTok zM (zM 120).1.cls (zM 120).1.name (zM 120).2.1 (zM 120).2.2.2.2.1 tb_X11_play_1 := zTok_of [695, 668, 929, 931, 28, 44, 932, 933, 935, 29, 44, 936, 693, 699] [] (by decide +kernel) (by decide +kernel) (by decide +kernel) (by decide +kernel) (by decide +kernel) (by decide +kernel)
set_option maxRecDepth 100000 in
theorem tk_X11_play_2 : zTok zM (zM 120).1.cls (zM 120).1.name (zM 120).2.1 (zM 120).2.2.2.2.1 tb_X11_play_2 := zTok_of [698, 698, 698, 699] [] (by decide +kernel) (by decide +kernel) (by decide +kernel) (by decide +kernel) (by decide +kernel) (by decide +kernel)
theorem ok_X11_play : zMok zM 120 := ⟨zTok_app (zTok_app (tk_X11_play_0) tk_X11_play_1) tk_X11_play_2, by decide +kernel, ⟨by decide +kernel, by decide +kernel⟩, by decide +kernel, by decide +kernel⟩
set_option maxRecDepth 100000 in
theorem tk_X11_game_0 : zTok zM (zM 121).1.cls (zM 121).1.name (zM 121).2.1 (zM 121).2.2.2.2.1 tb_X11_game := zTok_of [901, 804, 805, 44, 806, 668, 925, 927, 27, 44, 928] [] (by decide +kernel) (by decide +kernel) (by decide +kernel) (by decide +kernel) (by decide +kernel) (by decide +kernel)
theorem ok_X11_game : zMok zM 121 := ⟨tk_X11_game_0, by decide +kernel, ⟨by decide +kernel, by decide +kernel⟩, by decide +kernel, by decide +kernel⟩
set_option maxRecDepth 100000 in
theorem tk_X11_porter_0 : zTok zM (zM 122).1.cls (zM 122).1.name (zM 122).2.1 (zM 122).2.2.2.2.1 tb_X11_porter_0 := zTok_of [843, 845, 16, 44, 846, 941, 804, 805, 44, 806, 804, 805, 44, 806, 942, 943, 44, 944, 670, 671, 941] [] (by decide +kernel) (by decide +kernel) (by decide +kernel) (by decide +kernel) (by decide +kernel) (by decide +kernel)
set_option maxRecDepth 100000 in
theorem tk_X11_porter_1 : zTok zM (zM 122).1.cls (zM 122).1.name (zM 122).2.1 (zM 122).2.2.2.2.1 tb_X11_porter_1 := zTok_of [941, 941, 941, 669, 946, 946, 947, 948, 44, 949] [] (by decide +kernel) (by decide +kernel) (by decide +kernel) (by decide +kernel) (by decide +kernel) (by decide +kernel)
theorem ok_X11_porter : zMok zM 122 := ⟨zTok_app (tk_X11_porter_0) tk_X11_porter_1, by decide +kernel, ⟨by decide +kernel, by decide +kernel⟩, by decide +kernel, by decide +kernel⟩
set_option maxRecDepth 100000 in
theorem tk_X11_reading_0 : zTok zM (zM 123).1.cls (zM 123).1.name (zM 123).2.1 (zM 123).2.2.2.2.1 tb_X11_reading_0 := zTok_of [843, 845, 16, 44, 846, 843, 845, 16, 44, 846, 954, 804, 805, 44, 806, 700, 701, 700, 702, 700] [] (by decide +kernel) (by decide +kernel) (by decide +kernel) (by decide +kernel) (by decide +kernel) (by decide +kernel)
set_option maxRecDepth 100000 in
theorem tk_X11_reading_1 : zTok zM (zM 123).1.cls (zM 123).1.name (zM 123).2.1 (zM 123).2.2.2.2.1 tb_X11_reading_1 := zTok_of [703, 700, 700, 700, 700] [] (by decide +kernel) (by decide +kernel) (by decide +kernel) (by decide +kernel) (by decide +kernel) (by decide +kernel)
theorem ok_X11_reading : zMok zM 123 := ⟨zTok_app (tk_X11_reading_0) tk_X11_reading_1, by decide +kernel, ⟨by decide +kernel, by decide +kernel⟩, by decide +kernel, by decide +kernel⟩
set_option maxRecDepth 100000 in
theorem tk_X11_back_0 : zTok zM (zM 124).1.cls (zM 124).1.name (zM 124).2.1 (zM 124).2.2.2.2.1 tb_X11_back := zTok_of [700, 804, 805, 44, 806, 700, 700, 700] [] (by decide +kernel) (by decide +kernel) (by decide +kernel) (by decide +kernel) (by decide +kernel) (by decide +kernel)
theorem ok_X11_back : zMok zM 124 := ⟨tk_X11_back_0, by decide +kernel, ⟨by decide +kernel, by decide +kernel⟩, by decide +kernel, by decide +kernel⟩
set_option maxRecDepth 100000 in
theorem tk_X11_areSo_0 : zTok zM (zM 125).1.cls (zM 125).1.name (zM 125).2.1 (zM 125).2.2.2.2.1 tb_X11_areSo_0 := zTok_of [700, 875, 877, 20, 44, 878, 701, 879, 881, 21, 44, 882, 702, 702, 879, 881, 21, 44, 882, 684, 703] [] (by decide +kernel) (by decide +kernel) (by decide +kernel) (by decide +kernel) (by decide +kernel) (by decide +kernel)
set_option maxRecDepth 100000 in
theorem tk_X11_areSo_1 : zTok zM (zM 125).1.cls (zM 125).1.name (zM 125).2.1 (zM 125).2.2.2.2.1 tb_X11_areSo_1 := zTok_of [] [] (by decide +kernel) (by decide +kernel) (by decide +kernel) (by decide +kernel) (by decide +kernel) (by decide +kernel)
theorem ok_X11_areSo : zMok zM 125 := ⟨zTok_app (tk_X11_areSo_0) tk_X11_areSo_1, by decide +kernel, ⟨by decide +kernel, by decide +kernel⟩, by decide +kernel, by decide +kernel⟩
set_option maxRecDepth 100000 in
theorem tk_X11_fits_0 : zTok zM (zM 126).1.cls (zM 126).1.name (zM 126).2.1 (zM 126).2.2.2.2.1 tb_X11_fits_0 := zTok_of [811, 804, 805, 44, 806, 668, 963, 965, 30, 44, 966] [] (by decide +kernel) (by decide +kernel) (by decide +kernel) (by decide +kernel) (by decide +kernel) (by decide +kernel)
set_option maxRecDepth 100000 in
theorem tk_X11_fits_1 : zTok zM (zM 126).1.cls (zM 126).1.name (zM 126).2.1 (zM 126).2.2.2.2.1 tb_X11_fits_1 := zTok_of [] [] (by decide +kernel) (by decide +kernel) (by decide +kernel) (by decide +kernel) (by decide +kernel) (by decide +kernel)
theorem ok_X11_fits : zMok zM 126 := ⟨zTok_app (tk_X11_fits_0) tk_X11_fits_1, by decide +kernel, ⟨by decide +kernel, by decide +kernel⟩, by decide +kernel, by decide +kernel⟩
set_option maxRecDepth 100000 in
theorem tk_X11_noSheet_0 : zTok zM (zM 127).1.cls (zM 127).1.name (zM 127).2.1 (zM 127).2.2.2.2.1 tb_X11_noSheet := zTok_of [803, 804, 805, 44, 806] [] (by decide +kernel) (by decide +kernel) (by decide +kernel) (by decide +kernel) (by decide +kernel) (by decide +kernel)
theorem ok_X11_noSheet : zMok zM 127 := ⟨tk_X11_noSheet_0, by decide +kernel, ⟨by decide +kernel, by decide +kernel⟩, by decide +kernel, by decide +kernel⟩
set_option maxRecDepth 100000 in
theorem tk_X11_sheet_0 : zTok zM (zM 128).1.cls (zM 128).1.name (zM 128).2.1 (zM 128).2.2.2.2.1 tb_X11_sheet_0 := zTok_of [800, 801, 44, 802, 807, 809, 9, 44, 810, 811, 804, 805, 44, 806, 807, 809, 9, 44, 810, 816, 818, 11, 44, 819, 704, 705] [] (by decide +kernel) (by decide +kernel) (by decide +kernel) (by decide +kernel) (by decide +kernel) (by decide +kernel)
set_option maxRecDepth 100000 in
theorem tk_X11_sheet_1 : zTok zM (zM 128).1.cls (zM 128).1.name (zM 128).2.1 (zM 128).2.2.2.2.1 tb_X11_sheet_1 := zTok_of [706, 807, 809, 9, 44, 810] [] (by decide +kernel) (by decide +kernel) (by decide +kernel) (by decide +kernel) (by decide +kernel) (by decide +kernel)
theorem ok_X11_sheet : zMok zM 128 := ⟨zTok_app (tk_X11_sheet_0) tk_X11_sheet_1, by decide +kernel, ⟨by decide +kernel, by decide +kernel⟩, by decide +kernel, by decide +kernel⟩
set_option maxRecDepth 100000 in
theorem tk_X11_lose_0 : zTok zM (zM 129).1.cls (zM 129).1.name (zM 129).2.1 (zM 129).2.2.2.2.1 tb_X11_lose := zTok_of [800, 801, 44, 802, 704, 704] [] (by decide +kernel) (by decide +kernel) (by decide +kernel) (by decide +kernel) (by decide +kernel) (by decide +kernel)
theorem ok_X11_lose : zMok zM 129 := ⟨tk_X11_lose_0, by decide +kernel, ⟨by decide +kernel, by decide +kernel⟩, by decide +kernel, by decide +kernel⟩
set_option maxRecDepth 100000 in
theorem tk_X11_noCell_0 : zTok zM (zM 130).1.cls (zM 130).1.name (zM 130).2.1 (zM 130).2.2.2.2.1 tb_X11_noCell := zTok_of [704, 704, 804, 805, 44, 806] [] (by decide +kernel) (by decide +kernel) (by decide +kernel) (by decide +kernel) (by decide +kernel) (by decide +kernel)
theorem ok_X11_noCell : zMok zM 130 := ⟨tk_X11_noCell_0, by decide +kernel, ⟨by decide +kernel, by decide +kernel⟩, by decide +kernel, by decide +kernel⟩
set_option maxRecDepth 100000 in
theorem tk_X11_put_0 : zTok zM (zM 131).1.cls (zM 131).1.name (zM 131).2.1 (zM 131).2.2.2.2.1 tb_X11_put_0 := zTok_of [800, 801, 44, 802, 807, 809, 9, 44, 810, 979, 981, 31, 44, 982, 979, 981, 31, 44, 982, 816, 818, 11, 44, 819, 706, 705, 705] [] (by decide +kernel) (by decide +kernel) (by decide +kernel) (by decide +kernel) (by decide +kernel) (by decide +kernel)
set_option maxRecDepth 100000 in
theorem tk_X11_put_1 : zTok zM (zM 131).1.cls (zM 131).1.name (zM 131).2.1 (zM 131).2.2.2.2.1 tb_X11_put_1 := zTok_of [807, 809, 9, 44, 810] [] (by decide +kernel) (by decide +kernel) (by decide +kernel) (by decide +kernel) (by decide +kernel) (by decide +kernel)
theorem ok_X11_put : zMok zM 131 := ⟨zTok_app (tk_X11_put_0) tk_X11_put_1, by decide +kernel, ⟨by decide +kernel, by decide +kernel⟩, by decide +kernel, by decide +kernel⟩
set_option maxRecDepth 100000 in
theorem tk_X11_cell_0 : zTok zM (zM 132).1.cls (zM 132).1.name (zM 132).2.1 (zM 132).2.2.2.2.1 tb_X11_cell_0 := zTok_of [666, 800, 801, 44, 802, 811, 804, 805, 44, 806, 942, 943, 44, 944, 704, 705, 987, 989, 32, 44, 990, 979, 981, 31, 44, 982, 979, 981, 31, 44, 982, 987, 989, 32, 44, 990] [] (by decide +kernel) (by decide +kernel) (by decide +kernel) (by decide +kernel) (by decide +kernel) (by decide +kernel)
set_option maxRecDepth 100000 in
theorem tk_X11_cell_1 : zTok zM (zM 132).1.cls (zM 132).1.name (zM 132).2.1 (zM 132).2.2.2.2.1 tb_X11_cell_1 := zTok_of [706] [] (by decide +kernel) (by decide +kernel) (by decide +kernel) (by decide +kernel) (by decide +kernel) (by decide +kernel)
theorem ok_X11_cell : zMok zM 132 := ⟨zTok_app (tk_X11_cell_0) tk_X11_cell_1, by decide +kernel, ⟨by decide +kernel, by decide +kernel⟩, by decide +kernel, by decide +kernel⟩
set_option maxRecDepth 100000 in
theorem tk_X11_isBeyond_0 : zTok zM (zM 133).1.cls (zM 133).1.name (zM 133).2.1 (zM 133).2.2.2.2.1 tb_X11_isBeyond := zTok_of [] [] (by decide +kernel) (by decide +kernel) (by decide +kernel) (by decide +kernel) (by decide +kernel) (by decide +kernel)
theorem ok_X11_isBeyond : zMok zM 133 := ⟨tk_X11_isBeyond_0, by decide +kernel, ⟨by decide +kernel, by decide +kernel⟩, by decide +kernel, by decide +kernel⟩
set_option maxRecDepth 100000 in
theorem tk_X11_copy_0 : zTok zM (zM 134).1.cls (zM 134).1.name (zM 134).2.1 (zM 134).2.2.2.2.1 tb_X11_copy_0 := zTok_of [800, 801, 44, 802, 800, 801, 44, 802, 807, 809, 9, 44, 810, 704, 704, 816, 818, 11, 44, 819, 705, 705, 816, 818, 11, 44, 819] [] (by decide +kernel) (by decide +kernel) (by decide +kernel) (by decide +kernel) (by decide +kernel) (by decide +kernel)
set_option maxRecDepth 100000 in
theorem tk_X11_copy_1 : zTok zM (zM 134).1.cls (zM 134).1.name (zM 134).2.1 (zM 134).2.2.2.2.1 tb_X11_copy_1 := zTok_of [704, 820, 821, 44, 822, 704, 820, 821, 44, 822, 816, 818, 11, 44, 819, 707, 706] [] (by decide +kernel) (by decide +kernel) (by decide +kernel) (by decide +kernel) (by decide +kernel) (by decide +kernel)
set_option maxRecDepth 100000 in
theorem tk_X11_copy_2 : zTok zM (zM 134).1.cls (zM 134).1.name (zM 134).2.1 (zM 134).2.2.2.2.1 tb_X11_copy_2 := zTok_of [706, 707, 807, 809, 9, 44, 810] [] (by decide +kernel) (by decide +kernel) (by decide +kernel) (by decide +kernel) (by decide +kernel) (by decide +kernel)
theorem ok_X11_copy : zMok zM 134 := ⟨zTok_app (zTok_app (tk_X11_copy_0) tk_X11_copy_1) tk_X11_copy_2, by decide +kernel, ⟨by decide +kernel, by decide +kernel⟩, by decide +kernel, by decide +kernel⟩
set_option maxRecDepth 100000 in
theorem tk_X11_traced_0 : zTok zM (zM 135).1.cls (zM 135).1.name (zM 135).2.1 (zM 135).2.2.2.2.1 tb_X11_traced := zTok_of [708, 708] [] (by decide +kernel) (by decide +kernel) (by decide +kernel) (by decide +kernel) (by decide +kernel) (by decide +kernel)
theorem ok_X11_traced : zMok zM 135 := ⟨tk_X11_traced_0, by decide +kernel, ⟨by decide +kernel, by decide +kernel⟩, by decide +kernel, by decide +kernel⟩
set_option maxRecDepth 100000 in
theorem tk_X11_tell_0 : zTok zM (zM 136).1.cls (zM 136).1.name (zM 136).2.1 (zM 136).2.2.2.2.1 tb_X11_tell_0 := zTok_of [843, 845, 16, 44, 846, 669, 999, 1001, 33, 44, 1002, 999, 1001, 33, 44, 1002, 999, 1001, 33, 44, 1002, 999, 1001, 33, 44, 1002, 672] [] (by decide +kernel) (by decide +kernel) (by decide +kernel) (by decide +kernel) (by decide +kernel) (by decide +kernel)
set_option maxRecDepth 100000 in
theorem tk_X11_tell_1 : zTok zM (zM 136).1.cls (zM 136).1.name (zM 136).2.1 (zM 136).2.2.2.2.1 tb_X11_tell_1 := zTok_of [] [] (by decide +kernel) (by decide +kernel) (by decide +kernel) (by decide +kernel) (by decide +kernel) (by decide +kernel)
theorem ok_X11_tell : zMok zM 136 := ⟨zTok_app (tk_X11_tell_0) tk_X11_tell_1, by decide +kernel, ⟨by decide +kernel, by decide +kernel⟩, by decide +kernel, by decide +kernel⟩
set_option maxRecDepth 100000 in
theorem tk_X11_whisper_0 : zTok zM (zM 137).1.cls (zM 137).1.name (zM 137).2.1 (zM 137).2.2.2.2.1 tb_X11_whisper := zTok_of [843, 845, 16, 44, 846, 669, 999, 1001, 33, 44, 1002, 669] [] (by decide +kernel) (by decide +kernel) (by decide +kernel) (by decide +kernel) (by decide +kernel) (by decide +kernel)
theorem ok_X11_whisper : zMok zM 137 := ⟨tk_X11_whisper_0, by decide +kernel, ⟨by decide +kernel, by decide +kernel⟩, by decide +kernel, by decide +kernel⟩
set_option maxRecDepth 100000 in
theorem tk_X11_as_0 : zTok zM (zM 138).1.cls (zM 138).1.name (zM 138).2.1 (zM 138).2.2.2.2.1 tb_X11_as := zTok_of [843, 845, 16, 44, 846, 807, 809, 9, 44, 810, 811, 804, 805, 44, 806, 807, 809, 9, 44, 810, 669, 807, 809, 9, 44, 810, 816, 818, 11, 44, 819] [] (by decide +kernel) (by decide +kernel) (by decide +kernel) (by decide +kernel) (by decide +kernel) (by decide +kernel)
theorem ok_X11_as : zMok zM 138 := ⟨tk_X11_as_0, by decide +kernel, ⟨by decide +kernel, by decide +kernel⟩, by decide +kernel, by decide +kernel⟩
set_option maxRecDepth 100000 in
theorem tk_X11_trace_0 : zTok zM (zM 139).1.cls (zM 139).1.name (zM 139).2.1 (zM 139).2.2.2.2.1 tb_X11_trace := zTok_of [708] [] (by decide +kernel) (by decide +kernel) (by decide +kernel) (by decide +kernel) (by decide +kernel) (by decide +kernel)
theorem ok_X11_trace : zMok zM 139 := ⟨tk_X11_trace_0, by decide +kernel, ⟨by decide +kernel, by decide +kernel⟩, by decide +kernel, by decide +kernel⟩
set_option maxRecDepth 100000 in
theorem tk_X11_fault_0 : zTok zM (zM 140).1.cls (zM 140).1.name (zM 140).2.1 (zM 140).2.2.2.2.1 tb_X11_fault := zTok_of [666] [] (by decide +kernel) (by decide +kernel) (by decide +kernel) (by decide +kernel) (by decide +kernel) (by decide +kernel)
theorem ok_X11_fault : zMok zM 140 := ⟨tk_X11_fault_0, by decide +kernel, ⟨by decide +kernel, by decide +kernel⟩, by decide +kernel, by decide +kernel⟩
set_option maxRecDepth 100000 in
theorem tk_X11_many_0 : zTok zM (zM 141).1.cls (zM 141).1.name (zM 141).2.1 (zM 141).2.2.2.2.1 tb_X11_many := zTok_of [668, 667, 674, 675, 700] [] (by decide +kernel) (by decide +kernel) (by decide +kernel) (by decide +kernel) (by decide +kernel) (by decide +kernel)
theorem ok_X11_many : zMok zM 141 := ⟨tk_X11_many_0, by decide +kernel, ⟨by decide +kernel, by decide +kernel⟩, by decide +kernel, by decide +kernel⟩
set_option maxRecDepth 100000 in
theorem tk_J6_bitCount_0f7a4_0 : zTok zM (zM 142).1.cls (zM 142).1.name (zM 142).2.1 (zM 142).2.2.2.2.1 tb_J6_bitCount_0f7a4_0 := zTok_of [493, 494, 494, 495] [] (by decide +kernel) (by decide +kernel) (by decide +kernel) (by decide +kernel) (by decide +kernel) (by decide +kernel)
set_option maxRecDepth 100000 in
theorem tk_J6_bitCount_0f7a4_1 : zTok zM (zM 142).1.cls (zM 142).1.name (zM 142).2.1 (zM 142).2.2.2.2.1 tb_J6_bitCount_0f7a4_1 := zTok_of [] [] (by decide +kernel) (by decide +kernel) (by decide +kernel) (by decide +kernel) (by decide +kernel) (by decide +kernel)
theorem ok_J6_bitCount_0f7a4 : zMok zM 142 := ⟨zTok_app (tk_J6_bitCount_0f7a4_0) tk_J6_bitCount_0f7a4_1, by decide +kernel, ⟨by decide +kernel, by decide +kernel⟩, by decide +kernel, by decide +kernel⟩
set_option maxRecDepth 100000 in
theorem tk_J7_fill_53178_0 : zTok zM (zM 143).1.cls (zM 143).1.name (zM 143).2.1 (zM 143).2.2.2.2.1 tb_J7_fill_53178 := zTok_of [] [] (by decide +kernel) (by decide +kernel) (by decide +kernel) (by decide +kernel) (by decide +kernel) (by decide +kernel)
theorem ok_J7_fill_53178 : zMok zM 143 := ⟨tk_J7_fill_53178_0, by decide +kernel, ⟨by decide +kernel, by decide +kernel⟩, by decide +kernel, by decide +kernel⟩
end
section
set_option maxRecDepth 100000 in
theorem tk_L_law_0 : zTok zM RL "law" code ret tb_L_law_0 := zTok_of [51, 52, 35, 53, 54, 35, 55, 660, 661, 44, 662, 663, 44, 664] [] (by decide +kernel) (by decide +kernel) (by decide +kernel) (by decide +kernel) (by decide +kernel) (by decide +kernel)
set_option maxRecDepth 100000 in
theorem tk_L_law_1 : zTok zM RL "law" code ret tb_L_law_1 := zTok_of [259, 260, 261, 35, 262, 796, 797, 798, 44, 799] [] (by decide +kernel) (by decide +kernel) (by decide +kernel) (by decide +kernel) (by decide +kernel) (by decide +kernel)
set_option maxRecDepth 100000 in
theorem tk_L_law_2 : zTok zM RL "law" code ret tb_L_law_2 := zTok_of [374, 375, 376, 35, 377, 839, 840, 841, 44, 842, 417, 418, 419, 35, 420] [] (by decide +kernel) (by decide +kernel) (by decide +kernel) (by decide +kernel) (by decide +kernel) (by decide +kernel)
set_option maxRecDepth 100000 in
theorem tk_L_law_3 : zTok zM RL "law" code ret tb_L_law_3 := zTok_of [854, 855, 856, 44, 857, 422, 423, 424, 35, 425] [] (by decide +kernel) (by decide +kernel) (by decide +kernel) (by decide +kernel) (by decide +kernel) (by decide +kernel)
set_option maxRecDepth 100000 in
theorem tk_L_law_4 : zTok zM RL "law" code ret tb_L_law_4 := zTok_of [859, 860, 861, 44, 862, 426, 427, 428, 35, 429] [] (by decide +kernel) (by decide +kernel) (by decide +kernel) (by decide +kernel) (by decide +kernel) (by decide +kernel)
set_option maxRecDepth 100000 in
theorem tk_L_law_5 : zTok zM RL "law" code ret tb_L_law_5 := zTok_of [863, 864, 865, 44, 866] [] (by decide +kernel) (by decide +kernel) (by decide +kernel) (by decide +kernel) (by decide +kernel) (by decide +kernel)
set_option maxRecDepth 100000 in
theorem tk_L_law_6 : zTok zM RL "law" code ret tb_L_law_6 := zTok_of [458, 459, 460, 35, 461, 891, 892, 893, 44, 894] [] (by decide +kernel) (by decide +kernel) (by decide +kernel) (by decide +kernel) (by decide +kernel) (by decide +kernel)
set_option maxRecDepth 100000 in
theorem tk_L_law_7 : zTok zM RL "law" code ret tb_L_law_7 := zTok_of [462, 463, 464, 35, 465, 895, 896, 897, 44, 898, 486, 487, 488, 35, 489] [] (by decide +kernel) (by decide +kernel) (by decide +kernel) (by decide +kernel) (by decide +kernel) (by decide +kernel)
set_option maxRecDepth 100000 in
theorem tk_L_law_8 : zTok zM RL "law" code ret tb_L_law_8 := zTok_of [914, 915, 916, 44, 917, 496, 497, 498, 35, 499, 921, 922, 923, 44, 924] [] (by decide +kernel) (by decide +kernel) (by decide +kernel) (by decide +kernel) (by decide +kernel) (by decide +kernel)
set_option maxRecDepth 100000 in
theorem tk_L_law_9 : zTok zM RL "law" code ret tb_L_law_9 := zTok_of [519, 520, 521, 35, 522, 937, 938, 939, 44, 940] [] (by decide +kernel) (by decide +kernel) (by decide +kernel) (by decide +kernel) (by decide +kernel) (by decide +kernel)
set_option maxRecDepth 100000 in
theorem tk_L_law_10 : zTok zM RL "law" code ret tb_L_law_10 := zTok_of [534, 535, 536, 35, 537, 950, 951, 952, 44, 953] [] (by decide +kernel) (by decide +kernel) (by decide +kernel) (by decide +kernel) (by decide +kernel) (by decide +kernel)
set_option maxRecDepth 100000 in
theorem tk_L_law_11 : zTok zM RL "law" code ret tb_L_law_11 := zTok_of [542, 543, 544, 35, 545, 955, 956, 957, 44, 958, 546, 547, 548, 35, 549, 959, 960, 961, 44, 962] [] (by decide +kernel) (by decide +kernel) (by decide +kernel) (by decide +kernel) (by decide +kernel) (by decide +kernel)
set_option maxRecDepth 100000 in
theorem tk_L_law_12 : zTok zM RL "law" code ret tb_L_law_12 := zTok_of [554, 555, 556, 35, 557, 967, 968, 969, 44, 970, 567, 568, 569, 35, 570] [] (by decide +kernel) (by decide +kernel) (by decide +kernel) (by decide +kernel) (by decide +kernel) (by decide +kernel)
set_option maxRecDepth 100000 in
theorem tk_L_law_13 : zTok zM RL "law" code ret tb_L_law_13 := zTok_of [971, 972, 973, 44, 974, 576, 577, 578, 35, 579, 975, 976, 977, 44, 978] [] (by decide +kernel) (by decide +kernel) (by decide +kernel) (by decide +kernel) (by decide +kernel) (by decide +kernel)
set_option maxRecDepth 100000 in
theorem tk_L_law_14 : zTok zM RL "law" code ret tb_L_law_14 := zTok_of [585, 586, 587, 35, 588, 983, 984, 985, 44, 986] [] (by decide +kernel) (by decide +kernel) (by decide +kernel) (by decide +kernel) (by decide +kernel) (by decide +kernel)
set_option maxRecDepth 100000 in
theorem tk_L_law_15 : zTok zM RL "law" code ret tb_L_law_15 := zTok_of [590, 591, 592, 35, 593] [] (by decide +kernel) (by decide +kernel) (by decide +kernel) (by decide +kernel) (by decide +kernel) (by decide +kernel)
set_option maxRecDepth 100000 in
theorem tk_L_law_16 : zTok zM RL "law" code ret tb_L_law_16 := zTok_of [991, 992, 993, 44, 994, 596, 597, 598, 35, 599, 995, 996, 997, 44, 998, 626, 627, 628, 35, 629] [] (by decide +kernel) (by decide +kernel) (by decide +kernel) (by decide +kernel) (by decide +kernel) (by decide +kernel)
set_option maxRecDepth 100000 in
theorem tk_L_law_17 : zTok zM RL "law" code ret tb_L_law_17 := zTok_of [1003, 1004, 1005, 44, 1006, 639, 640, 641, 35, 642, 1007, 1008, 1009, 44, 1010, 648, 649, 650, 35, 651] [] (by decide +kernel) (by decide +kernel) (by decide +kernel) (by decide +kernel) (by decide +kernel) (by decide +kernel)
set_option maxRecDepth 100000 in
theorem tk_L_law_18 : zTok zM RL "law" code ret tb_L_law_18 := zTok_of [1011, 1012, 1013, 44, 1014, 652, 653, 654, 35, 655, 1015, 1016, 1017, 44, 1018, 656, 657, 658, 35, 659, 1019, 1020, 1021, 44, 1022] [] (by decide +kernel) (by decide +kernel) (by decide +kernel) (by decide +kernel) (by decide +kernel) (by decide +kernel)
theorem ok_L_law : zTok zM RL "law" code ret tb_L_law := zTok_app (zTok_app (zTok_app (zTok_app (zTok_app (zTok_app (zTok_app (zTok_app (zTok_app (zTok_app (zTok_app (zTok_app (zTok_app (zTok_app (zTok_app (zTok_app (zTok_app (zTok_app (tk_L_law_0) tk_L_law_1) tk_L_law_2) tk_L_law_3) tk_L_law_4) tk_L_law_5) tk_L_law_6) tk_L_law_7) tk_L_law_8) tk_L_law_9) tk_L_law_10) tk_L_law_11) tk_L_law_12) tk_L_law_13) tk_L_law_14) tk_L_law_15) tk_L_law_16) tk_L_law_17) tk_L_law_18
theorem zM_big (k : Nat) : zMok zM (k + 144) := by
  have e : zM (k + 144) = (⟨"X", "x", "()V"⟩, ByteArray.empty, 0, 0, none, []) := by
    unfold zM
    rw [List.getD_eq_getElem?_getD, List.getElem?_eq_none (by show 144 ≤ k + 144; omega)]
    rfl
  unfold zMok
  rw [e]
  exact ⟨fun q hq => by simp at hq, by decide +kernel, ⟨by decide +kernel, by decide +kernel⟩, by decide +kernel, by decide +kernel⟩
theorem zM_ok : ∀ mid, zMok zM mid := fun mid => match mid with
  | 0 => ok_X0_init
  | 1 => ok_X0_kind
  | 2 => ok_X0_isAnswered
  | 3 => ok_X0_oddsUnanswered
  | 4 => ok_X0_telling
  | 5 => ok_X1_init
  | 6 => ok_X1_taleAt
  | 7 => ok_X1_firstFault
  | 8 => ok_X1_goesOn
  | 9 => ok_X1_grow
  | 10 => ok_X1_newTale
  | 11 => ok_X2_init
  | 12 => ok_X2_farByBestPlay
  | 13 => ok_X2_leastFar
  | 14 => ok_X2_mostFar
  | 15 => ok_X3_init
  | 16 => ok_X3_seek
  | 17 => ok_X3_goOn
  | 18 => ok_X4_init
  | 19 => ok_X4_begin
  | 20 => ok_X4_takeUp
  | 21 => ok_X4_hear
  | 22 => ok_X4_learn
  | 23 => ok_X4_walk
  | 24 => ok_X5_init
  | 25 => ok_X5_kind
  | 26 => ok_X5_isAnswered
  | 27 => ok_X5_telling
  | 28 => ok_X5_whispering
  | 29 => ok_X6_init
  | 30 => ok_X6_add
  | 31 => ok_X7_init
  | 32 => ok_X7_isNothing
  | 33 => ok_X7_clear
  | 34 => ok_X7_renew
  | 35 => ok_X7_hasCell
  | 36 => ok_X7_hasCells
  | 37 => ok_X7_faultOfLane
  | 38 => ok_X7_faultOfCells
  | 39 => ok_X7_read
  | 40 => ok_X7_write
  | 41 => ok_X8_init
  | 42 => ok_X8_kind
  | 43 => ok_X8_isAnswered
  | 44 => ok_X8_hasEitherNeed
  | 45 => ok_X8_oddsUnanswered
  | 46 => ok_X8_telling
  | 47 => ok_X8_plainTelling
  | 48 => ok_X8_whispering
  | 49 => ok_X9_init
  | 50 => ok_X9_leave
  | 51 => ok_X10_init
  | 52 => ok_X10_forest
  | 53 => ok_X10_ofTale
  | 54 => ok_X10_know
  | 55 => ok_X10_believe
  | 56 => ok_X10_night
  | 57 => ok_X10_comes
  | 58 => ok_X10_takeOrder
  | 59 => ok_X10_passNight
  | 60 => ok_X10_never
  | 61 => ok_X10_study
  | 62 => ok_X10_game
  | 63 => ok_X10_porter
  | 64 => ok_X10_reading
  | 65 => ok_X10_back
  | 66 => ok_X10_fits
  | 67 => ok_X10_fitsReadings
  | 68 => ok_X10_sheet
  | 69 => ok_X10_lose
  | 70 => ok_X10_put
  | 71 => ok_X10_cell
  | 72 => ok_X10_copy
  | 73 => ok_X10_tell
  | 74 => ok_X10_whisper
  | 75 => ok_X10_as
  | 76 => ok_X10_trace
  | 77 => ok_X10_fault
  | 78 => ok_X10_many
  | 79 => ok_X10_sheetAt
  | 80 => ok_X10_failing
  | 81 => ok_X10_isWithin
  | 82 => ok_X10_has
  | 83 => ok_X10_isOfKind
  | 84 => ok_X10_newNights
  | 85 => ok_X11_init
  | 86 => ok_X11_in
  | 87 => ok_X11_lost
  | 88 => ok_X11_isIn
  | 89 => ok_X11_bits
  | 90 => ok_X11_told
  | 91 => ok_X11_refused
  | 92 => ok_X11_failed
  | 93 => ok_X11_failedLong
  | 94 => ok_X11_noTale
  | 95 => ok_X11_codeAt
  | 96 => ok_X11_figure
  | 97 => ok_X11_readsTale
  | 98 => ok_X11_readsForest
  | 99 => ok_X11_cellsBarred
  | 100 => ok_X11_forest
  | 101 => ok_X11_hasAnswer
  | 102 => ok_X11_ofTale
  | 103 => ok_X11_know
  | 104 => ok_X11_believe
  | 105 => ok_X11_beginNight
  | 106 => ok_X11_goSteps
  | 107 => ok_X11_goTale
  | 108 => ok_X11_goHeard
  | 109 => ok_X11_goOrder
  | 110 => ok_X11_orderBarred
  | 111 => ok_X11_night
  | 112 => ok_X11_comes
  | 113 => ok_X11_isUsed
  | 114 => ok_X11_lookAtRow
  | 115 => ok_X11_seekNever
  | 116 => ok_X11_never
  | 117 => ok_X11_study
  | 118 => ok_X11_nextWay
  | 119 => ok_X11_goWay
  | 120 => ok_X11_play
  | 121 => ok_X11_game
  | 122 => ok_X11_porter
  | 123 => ok_X11_reading
  | 124 => ok_X11_back
  | 125 => ok_X11_areSo
  | 126 => ok_X11_fits
  | 127 => ok_X11_noSheet
  | 128 => ok_X11_sheet
  | 129 => ok_X11_lose
  | 130 => ok_X11_noCell
  | 131 => ok_X11_put
  | 132 => ok_X11_cell
  | 133 => ok_X11_isBeyond
  | 134 => ok_X11_copy
  | 135 => ok_X11_traced
  | 136 => ok_X11_tell
  | 137 => ok_X11_whisper
  | 138 => ok_X11_as
  | 139 => ok_X11_trace
  | 140 => ok_X11_fault
  | 141 => ok_X11_many
  | 142 => ok_J6_bitCount_0f7a4
  | 143 => ok_J7_fill_53178
  | k + 144 => zM_big k
end
section
/-! THE CLAIM OUT OF ONE WALK OF THE LAW'S BODY. Your part is whole_start (and what it stands on); all else here is the same for every law, but numbers. -/
def R_law : String := "CorpseTalesLaw"
def lw_P (b : Addr) (xs : List Int32) (args : Array Value) (s : State) : Prop := args = #[.ref b] ∧ s.IntsAt b xs ∧ xs.length ≤ 384 ∧ (Jvm.Cond.and given_1 narrow_1).before args s = true
def lw_Q (_ : Array Value) (s : State) (o : Outcome) (t : State) : Prop := o = .returned (some (.int 1)) ∧ Framed s o t [] 600000 7302250
def lw_Z (below : List Frame) (a : Array Value) (s : State) : State → Prop := fun t => ∃ o, t.status = .running ∧ Ended t below o ∧ lw_Q a s o t
/-- the law's own end, with 1 on the stack, nothing written that was there before, its room as the claim has it -/
theorem lw_ret {p : Program} {l : Launch} {e : Env} {s : State} {m : MethodId} {below : List Frame} {meth : Method} {c : Code} {b : Nat} (hx : p.tables.exec = Jvm.exec) (hb : c.code = code) (hr : meth.sig.returnType = ret) (hlocks : meth.locks = false) {pc : Nat} {H : Heap} {ls : Array Slot} (hdg : decode code pc = .ok (.ireturn, 1)) : W p l e room_1 s m #[Value.ref b] below meth c H [] 600000 7302250 (lw_Z below #[Value.ref b] s) (F0 m pc ls [.int 1]) := by
  intro T hT X
  obtain ⟨fs, hret, hrun, hended, hW, hframe⟩ := X.leave (v := some (.int 1)) (hlocks := hlocks) (fun h => by rw [hr] at h; cases h)
  have hmeth' : T.vm.method? m = some meth := X.method'
  refine ⟨T.setFrames fs, ?_, .returned (some (.int 1)), hrun, hended, rfl, ⟨_, rfl⟩, hW, hframe⟩
  jvm_step X.here [X.here.top, hx, hb, hdg, hmeth', hr, ret, narrow_b1]
  (try refine ⟨rfl, ?_⟩); (try refine ⟨rfl, ?_⟩)
  first | (intro acts; rw [hret _ acts rfl rfl rfl]) | rw [hret _ _ rfl rfl rfl]
  exact Steps.refl _
/-- what holds at the law's entry: the machine, the code, the tables' words (any of lw_tbl by 'hts w (by decide +kernel)'), the script of L ints xs at the cell b, what the Statement gives of the start (any of its parts by flat_of_before) -/
def lw_At (p : Program) (s : State) (m : MethodId) (meth : Method) (c : Code) (b L : Nat) (xs : Nat → Int32) : Prop :=
  p.tables.exec = Jvm.exec ∧ c.code = code ∧ meth.sig.returnType = ret ∧ c.maxLocals = 4 ∧ s.vm.findClass R_law = some m.cls ∧ (∀ w ∈ lw_tbl, w.before #[Value.ref b] s = true) ∧ va_X b L xs s s.heap ∧ b < s.heap.size ∧ meth.locks = false ∧ (Jvm.Cond.and given_1 narrow_1).before #[Value.ref b] s = true
/-! the law's run in the deep machine is the law's run -/
def z0 (L : Nat) (xs : Nat → Int32) : zH := (1, 0, fun a => if a = 0 then (16, L) else (99, 0), fun a j => if a = 0 then xs j else 0, fun _ _ => none)
theorem zGood_in {w : Cond} (h : w ∈ zGood) : w ∈ lw_tbl := (List.mem_filter.mp h).1
theorem zinst_at : ∀ t, t < 12 → Cond.instantiable (zC t) (zNF t) ∈ lw_tbl := zcases (by decide +kernel) (by decide +kernel) (by decide +kernel) (by decide +kernel) (by decide +kernel) (by decide +kernel) (by decide +kernel) (by decide +kernel) (by decide +kernel) (by decide +kernel) (by decide +kernel) (by decide +kernel)
theorem zarr_0 : Cond.arrayClass .int ∈ lw_tbl := by decide +kernel
theorem zarr_1 : Cond.arrayOver (.object "CorpseTales$Tale") ∈ lw_tbl := by decide +kernel
theorem zarr_2 : Cond.arrayOver (.object "CorpseTales$Night") ∈ lw_tbl := by decide +kernel
theorem zarr_3 : Cond.arrayOver (.object "CorpseTales$Sheet") ∈ lw_tbl := by decide +kernel
theorem zcl_lt {t : Nat} {q : vw_C} (h : vwCl[t]? = some q) : t < 12 := (List.getElem?_eq_some_iff.mp h).1
theorem zK_start {s : State} {args : Array Value} (hts : ∀ w ∈ lw_tbl, w.before args s = true) (hgv : (Jvm.Cond.and given_1 narrow_1).before args s = true) : ∃ (dC : Nat → ClassId) (dI : Nat → Nat → Nat) (cA : Nat → ClassId), zK dC dI cA s := by
  have hk : ∀ t : Nat, ∃ q : ClassId × (Nat → Nat), t < 12 → u_Kn s (zC t) (zF t) (zNF t) q.1 q.2 := by
    intro t
    by_cases ht : t < 12
    · obtain ⟨c, i, h⟩ := u_known hts (fun w hw => zGood_in (zin_at t ht w hw)) (hts _ (zinst_at t ht))
      exact ⟨(c, i), fun _ => h⟩
    · exact ⟨(0, fun _ => 0), fun h => absurd h ht⟩
  obtain ⟨f, hf⟩ := Classical.axiomOfChoice hk
  obtain ⟨c0, k0, m0, a1, a2, a3⟩ := Cond.arrayClass_spec (hts _ zarr_0)
  have arr : ∀ C : String, Cond.arrayOver (.object C) ∈ lw_tbl → ∃ cA : ClassId, ArrOfT s cA (.object C) ∧ va_RA s cA (.object C) := by
    intro C hC
    obtain ⟨comp, c, k, h1, h2, h3, h4, h5⟩ := Cond.arrayOver_spec (hts _ hC)
    exact ⟨c, fun n z => ⟨(fun k h => by cases h), k, h3, comp, h4⟩, k, comp, h3, h4, h1, h5⟩
  obtain ⟨c1, b1⟩ := arr _ zarr_1
  obtain ⟨c2, b2⟩ := arr _ zarr_2
  obtain ⟨c3, b3⟩ := arr _ zarr_3
  refine ⟨fun t => (f t).1, fun t => (f t).2, fun k => if k = 0 then c0 else if k = 1 then c1 else if k = 2 then c2 else c3, ⟨fun t q hq => ?_, fun k q hq => ?_⟩, fun w hw hn => ?_, va_Nc.of (flat_of_before _ hgv _ (by decide +kernel)), va_Nc.of (flat_of_before _ hgv _ (by decide +kernel)), va_Nc.of (flat_of_before _ hgv _ (by decide +kernel))⟩
  · have ht := zcl_lt hq
    rw [zcl_at t ht] at hq
    cases hq
    exact hf t ht
  · match k, hq with
    | 0, hq =>
      cases hq
      exact ⟨fun n z => ⟨(fun k h => by cases h), k0, a2, m0, a3⟩, a1⟩
    | 1, hq => cases hq; exact b1
    | 2, hq => cases hq; exact b2
    | 3, hq => cases hq; exact b3
    | k + 4, hq => simp [ztys] at hq
  · have hz := hts w hw
    cases w <;> simp [znest] at hn
    case methodLinkNest => exact va_Nw.of rfl hz
    case castable => exact va_Nw.of rfl hz
    case arrayOver t =>
      cases t <;> simp at hn
      exact va_AO.of hz
def znoput (q : Nat × zO) : Bool := match q.2.1 with
  | .putfield _ => false
  | _ => true
theorem zTok_nm {M : Nat → zQ} {own nm nm2 : String} {cc : ByteArray} {ret : Option FieldType} {tab : List (Nat × zO)} (h : zTok M own nm cc ret tab) (hp : tab.all znoput = true) : zTok M own nm2 cc ret tab := by
  intro q hq
  obtain ⟨h1, h2, h3, h4, h5⟩ := h q hq
  refine ⟨h1, h2, h3, h4, ?_⟩
  have h6 := List.all_eq_true.mp hp q hq
  rw [← h5]
  obtain ⟨pc, i, len, k, tb⟩ := q
  unfold znoput at h6
  unfold zoks
  cases i <;> first | rfl | (simp at h6; done)
theorem zlaw_noput : tb_L_law.all znoput = true := by decide +kernel
theorem zwhole {p : Program} {e : Env} {s : State} {m : MethodId} {below : List Frame} {meth : Method} {c : Code} (l : Launch) {b L : Nat} {xs : Nat → Int32} (C0 : lw_At p s m meth c b L xs)
    (hpure : ∃ h', zx (zcall (zP zM) 40) (zlk tb_L_law) (0, [some (.inr (.inr (some 0))), none, none, none], [], z0 L xs) = some (some (.inl 1), h') ∧ zn h' ≤ 600000 ∧ zu h' ≤ 7302250) : W p l e room_1 s m #[Value.ref b] below meth c s.heap [] 0 0 (lw_Z below #[Value.ref b] s) (entryFrame m ([Value.ref b] : List Value).toArray 4) := by
  obtain ⟨hx, hb, hr, hml, hown, hts, hX, hbl, hlocks, hgv⟩ := C0
  obtain ⟨dC, dI, cA, hK⟩ := zK_start hts hgv
  obtain ⟨h', hrun, hcells, hslots⟩ := hpure
  obtain ⟨n, hn⟩ := zx_iff.mp hrun
  have hT : zTok zM RL meth.name code ret tb_L_law := zTok_nm ok_L_law zlaw_noput
  have C : zCx p s m #[Value.ref b] meth c code RL meth.name 4 b s.heap.size L xs dC dI cA := ⟨hx, hb, hml, hown, fun w hw => hts w (zGood_in hw), hK, hX, hbl, Nat.le_refl _, hlocks, rfl⟩
  have hR : zRep b s.heap.size L xs dC dI cA (z0 L xs) s.heap := by
    refine ⟨fun k q hq => by simp [zws, zn, z0] at hq, rfl, Nat.le_refl _, fun a ha => ?_, fun a ha ha2 => ?_, rfl, fun j hj => rfl⟩
    · show ((if a = 0 then (16, L) else (99, 0)) : Nat × Nat).1 = 99
      have : 1 ≤ a := ha
      rw [if_neg (by omega)]
    · have : a < 1 := ha2
      omega
  have key := zs_exec (l := l) (e := e) (below := below) (R := room_1) (d := 40) (n0 := 1) (u0 := 0) (Q := lw_Z below #[Value.ref b] s) C zM_ok (zMet_all zM_ok l hbl xs dC dI cA 40) (by decide) (by decide) rfl hT (r := (some (.inl 1), h')) (show zn h' - 1 ≤ 600000 by omega) (show zu h' - 0 ≤ 7302250 by omega) ?_ n _ hn (Nat.le_refl _) (Nat.zero_le _)
  · have hl := zLV_entry b s.heap.size [.inr (.inr (some 0))] (n := 4) (by decide)
    rw [lg_entry_eq]
    exact key s.heap [] _ hR va_S.rf hl
  · intro pc ls st h o ho hs
    obtain ⟨hdg, -⟩ := hT _ ho
    obtain ⟨i, len, k, tb⟩ := o
    dsimp only at hdg
    unfold zret at hs
    split at hs
    · rename_i v hi
      dsimp only at hi
      subst hi
      split at hs
      · cases hs
      · cases hs
        intro H locs la hR hS hl
        refine va_forget (fun q hq => hS.2.2 q hq) (W.widen (k := 600000) (n := 7302250) ?_ ?_ (lw_ret hx hb hr hlocks hdg))
        · show zn h' - 1 ≤ 600000
          omega
        · show zu h' - 0 ≤ 7302250
          omega
    · cases hs
    · cases hs
    · cases hs
    · cases hs
end
section
/-! the deep machine, instruction by instruction, as equations -/
noncomputable def zX (d : Nat) (tb : List (Nat × zO)) (pc : Nat) (ls : zL) (st : List zV) (h : zH) : Option zR := zx (zcall (zP zM) d) (zlk tb) (pc, ls, st, h)
section ZEV
variable {d : Nat} {tb : List (Nat × zO)} {pc : Nat} {ls : zL} {st : List zV} {h : zH}
theorem zX_unf {o : zO} (ho : zlk tb pc = some o) : zX d tb pc ls st h = zaft (fun y => zX d tb y.1 y.2.1 y.2.2.1 y.2.2.2) (zstp (zcall (zP zM) d) o (pc, ls, st, h)) := by
  unfold zX
  rw [zx_unf]
  show zaft _ ((zlk tb pc).bind _) = _
  rw [ho]
  rfl
theorem zaft_ite {k : zS → Option zR} {c : Prop} [Decidable c] {a b : zT} : zaft k (if c then a else b) = if c then zaft k a else zaft k b := by
  split <;> rfl
theorem zaft_bind {α : Type} {k : zS → Option zR} {q : Option α} {f : α → zT} : zaft k (q.bind f) = q.bind fun v => zaft k (f v) := by
  cases q <;> rfl
theorem ux_if_eq {off : Int} {l : Nat} {k : Int} {t : List (Nat × Nat × Nat × String × String)} {tgt : Nat} {x : Int32} (ho : zlk tb pc = some (.ifCond .eq off, l, k, t)) (ht : ztg pc off = tgt) : zX d tb pc ls (.inl x :: st) h = if x = 0 then zX d tb tgt ls st h else zX d tb (pc + 3) ls st h := by
  subst ht
  rw [zX_unf ho]
  by_cases q : x = 0
  · simp [zstp, zjump, zcond, zgo, zaft, q]
  · simp [zstp, zjump, zcond, zgo, zaft, q]
theorem ux_if_ne {off : Int} {l : Nat} {k : Int} {t : List (Nat × Nat × Nat × String × String)} {tgt : Nat} {x : Int32} (ho : zlk tb pc = some (.ifCond .ne off, l, k, t)) (ht : ztg pc off = tgt) : zX d tb pc ls (.inl x :: st) h = if x = 0 then zX d tb (pc + 3) ls st h else zX d tb tgt ls st h := by
  subst ht
  rw [zX_unf ho]
  by_cases q : x = 0
  · simp [zstp, zjump, zcond, zgo, zaft, q]
  · simp [zstp, zjump, zcond, zgo, zaft, q]
theorem ux_if_lt {off : Int} {l : Nat} {k : Int} {t : List (Nat × Nat × Nat × String × String)} {tgt : Nat} {x : Int32} (ho : zlk tb pc = some (.ifCond .lt off, l, k, t)) (ht : ztg pc off = tgt) : zX d tb pc ls (.inl x :: st) h = if x < 0 then zX d tb tgt ls st h else zX d tb (pc + 3) ls st h := by
  subst ht
  rw [zX_unf ho]
  by_cases q : x < 0
  · simp [zstp, zjump, zcond, zgo, zaft, q]
  · simp [zstp, zjump, zcond, zgo, zaft, q]
theorem ux_if_ge {off : Int} {l : Nat} {k : Int} {t : List (Nat × Nat × Nat × String × String)} {tgt : Nat} {x : Int32} (ho : zlk tb pc = some (.ifCond .ge off, l, k, t)) (ht : ztg pc off = tgt) : zX d tb pc ls (.inl x :: st) h = if x < 0 then zX d tb (pc + 3) ls st h else zX d tb tgt ls st h := by
  subst ht
  rw [zX_unf ho]
  by_cases q : x < 0
  · have q2 : ¬ 0 ≤ x := Int32.not_le.mpr q
    simp [zstp, zjump, zcond, zgo, zaft, q, q2]
  · have q2 : 0 ≤ x := Int32.not_lt.mp q
    simp [zstp, zjump, zcond, zgo, zaft, q, q2]
theorem ux_if_gt {off : Int} {l : Nat} {k : Int} {t : List (Nat × Nat × Nat × String × String)} {tgt : Nat} {x : Int32} (ho : zlk tb pc = some (.ifCond .gt off, l, k, t)) (ht : ztg pc off = tgt) : zX d tb pc ls (.inl x :: st) h = if 0 < x then zX d tb tgt ls st h else zX d tb (pc + 3) ls st h := by
  subst ht
  rw [zX_unf ho]
  by_cases q : 0 < x
  · simp [zstp, zjump, zcond, zgo, zaft, q]
  · simp [zstp, zjump, zcond, zgo, zaft, q]
theorem ux_if_le {off : Int} {l : Nat} {k : Int} {t : List (Nat × Nat × Nat × String × String)} {tgt : Nat} {x : Int32} (ho : zlk tb pc = some (.ifCond .le off, l, k, t)) (ht : ztg pc off = tgt) : zX d tb pc ls (.inl x :: st) h = if 0 < x then zX d tb (pc + 3) ls st h else zX d tb tgt ls st h := by
  subst ht
  rw [zX_unf ho]
  by_cases q : 0 < x
  · have q2 : ¬ x ≤ 0 := Int32.not_le.mpr q
    simp [zstp, zjump, zcond, zgo, zaft, q, q2]
  · have q2 : x ≤ 0 := Int32.not_lt.mp q
    simp [zstp, zjump, zcond, zgo, zaft, q, q2]
theorem ux_ic_eq {off : Int} {l : Nat} {k : Int} {t : List (Nat × Nat × Nat × String × String)} {tgt : Nat} {x y : Int32} (ho : zlk tb pc = some (.if_icmp .eq off, l, k, t)) (ht : ztg pc off = tgt) : zX d tb pc ls (.inl y :: .inl x :: st) h = if x = y then zX d tb tgt ls st h else zX d tb (pc + 3) ls st h := by
  subst ht
  rw [zX_unf ho]
  by_cases q : x = y
  · simp [zstp, zjump2, zcond, zgo, zaft, q]
  · simp [zstp, zjump2, zcond, zgo, zaft, q]
theorem ux_ic_ne {off : Int} {l : Nat} {k : Int} {t : List (Nat × Nat × Nat × String × String)} {tgt : Nat} {x y : Int32} (ho : zlk tb pc = some (.if_icmp .ne off, l, k, t)) (ht : ztg pc off = tgt) : zX d tb pc ls (.inl y :: .inl x :: st) h = if x = y then zX d tb (pc + 3) ls st h else zX d tb tgt ls st h := by
  subst ht
  rw [zX_unf ho]
  by_cases q : x = y
  · simp [zstp, zjump2, zcond, zgo, zaft, q]
  · simp [zstp, zjump2, zcond, zgo, zaft, q]
theorem ux_ic_lt {off : Int} {l : Nat} {k : Int} {t : List (Nat × Nat × Nat × String × String)} {tgt : Nat} {x y : Int32} (ho : zlk tb pc = some (.if_icmp .lt off, l, k, t)) (ht : ztg pc off = tgt) : zX d tb pc ls (.inl y :: .inl x :: st) h = if x < y then zX d tb tgt ls st h else zX d tb (pc + 3) ls st h := by
  subst ht
  rw [zX_unf ho]
  by_cases q : x < y
  · simp [zstp, zjump2, zcond, zgo, zaft, q]
  · simp [zstp, zjump2, zcond, zgo, zaft, q]
theorem ux_ic_ge {off : Int} {l : Nat} {k : Int} {t : List (Nat × Nat × Nat × String × String)} {tgt : Nat} {x y : Int32} (ho : zlk tb pc = some (.if_icmp .ge off, l, k, t)) (ht : ztg pc off = tgt) : zX d tb pc ls (.inl y :: .inl x :: st) h = if x < y then zX d tb (pc + 3) ls st h else zX d tb tgt ls st h := by
  subst ht
  rw [zX_unf ho]
  by_cases q : x < y
  · have q2 : ¬ y ≤ x := Int32.not_le.mpr q
    simp [zstp, zjump2, zcond, zgo, zaft, q, q2]
  · have q2 : y ≤ x := Int32.not_lt.mp q
    simp [zstp, zjump2, zcond, zgo, zaft, q, q2]
theorem ux_ic_gt {off : Int} {l : Nat} {k : Int} {t : List (Nat × Nat × Nat × String × String)} {tgt : Nat} {x y : Int32} (ho : zlk tb pc = some (.if_icmp .gt off, l, k, t)) (ht : ztg pc off = tgt) : zX d tb pc ls (.inl y :: .inl x :: st) h = if y < x then zX d tb tgt ls st h else zX d tb (pc + 3) ls st h := by
  subst ht
  rw [zX_unf ho]
  by_cases q : y < x
  · simp [zstp, zjump2, zcond, zgo, zaft, q]
  · simp [zstp, zjump2, zcond, zgo, zaft, q]
theorem ux_ic_le {off : Int} {l : Nat} {k : Int} {t : List (Nat × Nat × Nat × String × String)} {tgt : Nat} {x y : Int32} (ho : zlk tb pc = some (.if_icmp .le off, l, k, t)) (ht : ztg pc off = tgt) : zX d tb pc ls (.inl y :: .inl x :: st) h = if y < x then zX d tb (pc + 3) ls st h else zX d tb tgt ls st h := by
  subst ht
  rw [zX_unf ho]
  by_cases q : y < x
  · have q2 : ¬ x ≤ y := Int32.not_le.mpr q
    simp [zstp, zjump2, zcond, zgo, zaft, q, q2]
  · have q2 : x ≤ y := Int32.not_lt.mp q
    simp [zstp, zjump2, zcond, zgo, zaft, q, q2]
theorem ux_null {off : Int} {l : Nat} {k : Int} {t : List (Nat × Nat × Nat × String × String)} {tgt : Nat} {r : Option Nat} (ho : zlk tb pc = some (.ifnull off, l, k, t)) (ht : ztg pc off = tgt) : zX d tb pc ls (.inr (.inr r) :: st) h = if r = none then zX d tb tgt ls st h else zX d tb (pc + 3) ls st h := by
  subst ht
  rw [zX_unf ho]
  cases r <;> simp [zstp, zjumpN, zgo, zaft]
theorem ux_nonnull {off : Int} {l : Nat} {k : Int} {t : List (Nat × Nat × Nat × String × String)} {tgt : Nat} {r : Option Nat} (ho : zlk tb pc = some (.ifnonnull off, l, k, t)) (ht : ztg pc off = tgt) : zX d tb pc ls (.inr (.inr r) :: st) h = if r = none then zX d tb (pc + 3) ls st h else zX d tb tgt ls st h := by
  subst ht
  rw [zX_unf ho]
  cases r <;> simp [zstp, zjumpN, zgo, zaft]
/-- a field: where its class is among the table's -/
theorem ux_get {i l : Nat} {k : Int} {t : List (Nat × Nat × Nat × String × String)} {a : Nat} (ho : zlk tb pc = some (.getfield i, l, k, t)) (hk : k ≠ 2) : zX d tb pc ls (.inr (.inr (some a)) :: st) h = (zfind t (zk h a).1).bind fun j => zX d tb (pc + 3) ls (.inl (zi h a j) :: st) h := by
  rw [zX_unf ho]
  simp only [zstp, zget, zaft_bind]
  congr 1
  funext j
  rw [if_neg hk]
  rfl
theorem ux_getr {i l : Nat} {t : List (Nat × Nat × Nat × String × String)} {a : Nat} (ho : zlk tb pc = some (.getfield i, l, 2, t)) : zX d tb pc ls (.inr (.inr (some a)) :: st) h = (zfind t (zk h a).1).bind fun j => zX d tb (pc + 3) ls (.inr (.inr (zr h a j)) :: st) h := by
  rw [zX_unf ho]
  simp only [zstp, zget, zaft_bind]
  congr 1
theorem ux_put {i l : Nat} {t : List (Nat × Nat × Nat × String × String)} {a : Nat} {v : Int32} (ho : zlk tb pc = some (.putfield i, l, 0, t)) : zX d tb pc ls (.inl v :: .inr (.inr (some a)) :: st) h = (zfind t (zk h a).1).bind fun j => zX d tb (pc + 3) ls st (zwI h a j v) := by
  rw [zX_unf ho]
  simp only [zstp, zput, zaft_bind]
  congr 1
theorem ux_putz {i l : Nat} {t : List (Nat × Nat × Nat × String × String)} {a : Nat} {v : Int32} (ho : zlk tb pc = some (.putfield i, l, 1, t)) : zX d tb pc ls (.inl v :: .inr (.inr (some a)) :: st) h = (zfind t (zk h a).1).bind fun j => if v = 0 ∨ v = 1 then zX d tb (pc + 3) ls st (zwI h a j v) else none := by
  rw [zX_unf ho]
  simp only [zstp, zput, zaft_bind]
  congr 1
  funext j
  rw [zaft_ite]
  simp [zgo, zaft]
theorem ux_putr {i l : Nat} {t : List (Nat × Nat × Nat × String × String)} {a : Nat} {r : Option Nat} (ho : zlk tb pc = some (.putfield i, l, 2, t)) : zX d tb pc ls (.inr (.inr r) :: .inr (.inr (some a)) :: st) h = (zfind t (zk h a).1).bind fun j => zX d tb (pc + 3) ls st (zwR h a j r) := by
  rw [zX_unf ho]
  simp only [zstp, zput, zaft_bind]
  congr 1
theorem ux_ald {l : Nat} {k : Int} {t : List (Nat × Nat × Nat × String × String)} {a : Nat} {i : Int32} (ho : zlk tb pc = some (.iaload, l, k, t)) : zX d tb pc ls (.inl i :: .inr (.inr (some a)) :: st) h = if (zk h a).1 = 12 ∨ (zk h a).1 = 16 then (zix i (zk h a).2).bind fun j => zX d tb (pc + 1) ls (.inl (zi h a j) :: st) h else none := by
  rw [zX_unf ho]
  simp only [zstp, zald, zaft_ite, zaft_bind]
  rfl
theorem ux_ast {l : Nat} {k : Int} {t : List (Nat × Nat × Nat × String × String)} {a : Nat} {i v : Int32} (ho : zlk tb pc = some (.iastore, l, k, t)) : zX d tb pc ls (.inl v :: .inl i :: .inr (.inr (some a)) :: st) h = if (zk h a).1 = 12 then (zix i (zk h a).2).bind fun j => zX d tb (pc + 1) ls st (zwI h a j v) else none := by
  rw [zX_unf ho]
  simp only [zstp, zast, zaft_ite, zaft_bind]
  rfl
theorem ux_aald {l : Nat} {k : Int} {t : List (Nat × Nat × Nat × String × String)} {a : Nat} {i : Int32} (ho : zlk tb pc = some (.aaload, l, k, t)) : zX d tb pc ls (.inl i :: .inr (.inr (some a)) :: st) h = if 13 ≤ (zk h a).1 ∧ (zk h a).1 ≤ 15 then (zix i (zk h a).2).bind fun j => zX d tb (pc + 1) ls (.inr (.inr (zr h a j)) :: st) h else none := by
  rw [zX_unf ho]
  simp only [zstp, zaald, zaft_ite, zaft_bind]
  rfl
theorem ux_aast {l : Nat} {k : Int} {t : List (Nat × Nat × Nat × String × String)} {a q : Nat} {i : Int32} (ho : zlk tb pc = some (.aastore, l, k, t)) : zX d tb pc ls (.inr (.inr (some q)) :: .inl i :: .inr (.inr (some a)) :: st) h = if zfit (zk h a).1 (zk h q).1 = true then (zix i (zk h a).2).bind fun j => zX d tb (pc + 1) ls st (zwR h a j (some q)) else none := by
  rw [zX_unf ho]
  simp only [zstp, zaast, zaft_ite, zaft_bind]
  rfl
theorem ux_alen {l : Nat} {k : Int} {t : List (Nat × Nat × Nat × String × String)} {a : Nat} (ho : zlk tb pc = some (.arraylength, l, k, t)) : zX d tb pc ls (.inr (.inr (some a)) :: st) h = if 12 ≤ (zk h a).1 ∧ (zk h a).1 ≤ 16 then zX d tb (pc + 1) ls (.inl (nI (zk h a).2) :: st) h else none := by
  rw [zX_unf ho]
  simp only [zstp, zalen, zaft_ite]
  rfl
theorem ux_newa {l : Nat} {k : Int} {t : List (Nat × Nat × Nat × String × String)} {n : Int32} (ho : zlk tb pc = some (.newarray .int, l, k, t)) : zX d tb pc ls (.inl n :: st) h = if n < 0 ∨ 1000 < n.toNatClampNeg then none else zX d tb (pc + 2) ls (.inr (.inr (some (zn h))) :: st) (zN h 12 n.toNatClampNeg n.toNatClampNeg) := by
  rw [zX_unf ho]
  simp only [zstp, znewa, zaft_ite]
  rfl
theorem ux_anew {i l : Nat} {k : Int} {t : List (Nat × Nat × Nat × String × String)} {n : Int32} {a : Nat} (ho : zlk tb pc = some (.anewarray i, l, k, t)) (hk : k.toNat = a) : zX d tb pc ls (.inl n :: st) h = if n < 0 ∨ 1000 < n.toNatClampNeg then none else zX d tb (pc + 3) ls (.inr (.inr (some (zn h))) :: st) (zN h a n.toNatClampNeg n.toNatClampNeg) := by
  subst hk
  rw [zX_unf ho]
  simp only [zstp, znewa, zaft_ite]
  rfl
theorem ux_inst {i l : Nat} {k : Int} {t : List (Nat × Nat × Nat × String × String)} {a : Nat} (ho : zlk tb pc = some (.instanceof i, l, k, t)) : zX d tb pc ls (.inr (.inr (some a)) :: st) h = (zfind t (zk h a).1).bind fun j => zX d tb (pc + 3) ls (.inl (if j = 1 then 1 else 0) :: st) h := by
  rw [zX_unf ho]
  simp only [zstp, zinst, zaft_bind]
  rfl
theorem ux_div {l : Nat} {k : Int} {t : List (Nat × Nat × Nat × String × String)} {x y : Int32} (ho : zlk tb pc = some (.idiv, l, k, t)) : zX d tb pc ls (.inl y :: .inl x :: st) h = if y = 0 then none else zX d tb (pc + 1) ls (.inl (x / y) :: st) h := by
  rw [zX_unf ho]
  by_cases q : y = 0 <;> simp [zstp, zop2, q, zaft, zgo]
theorem ux_rem {l : Nat} {k : Int} {t : List (Nat × Nat × Nat × String × String)} {x y : Int32} (ho : zlk tb pc = some (.irem, l, k, t)) : zX d tb pc ls (.inl y :: .inl x :: st) h = if y = 0 then none else zX d tb (pc + 1) ls (.inl (x - x / y * y) :: st) h := by
  rw [zX_unf ho]
  by_cases q : y = 0 <;> simp [zstp, zop2, q, zaft, zgo]
theorem ux_ldiv {l : Nat} {k : Int} {t : List (Nat × Nat × Nat × String × String)} {x y : Int64} (ho : zlk tb pc = some (.ldiv, l, k, t)) : zX d tb pc ls (.inr (.inl y) :: .inr (.inl x) :: st) h = if y = 0 then none else zX d tb (pc + 1) ls (.inr (.inl (x / y)) :: st) h := by
  rw [zX_unf ho]
  by_cases q : y = 0 <;> simp [zstp, zop2l, q, zaft, zgo]
theorem ux_lrem {l : Nat} {k : Int} {t : List (Nat × Nat × Nat × String × String)} {x y : Int64} (ho : zlk tb pc = some (.lrem, l, k, t)) : zX d tb pc ls (.inr (.inl y) :: .inr (.inl x) :: st) h = if y = 0 then none else zX d tb (pc + 1) ls (.inr (.inl (x - x / y * y)) :: st) h := by
  rw [zX_unf ho]
  by_cases q : y = 0 <;> simp [zstp, zop2l, q, zaft, zgo]
theorem ux_zret {l : Nat} {t : List (Nat × Nat × Nat × String × String)} {v : Int32} (ho : zlk tb pc = some (.ireturn, l, 1, t)) : zX d tb pc ls [.inl v] h = if v = 0 ∨ v = 1 then some (some (.inl v), h) else none := by
  rw [zX_unf ho]
  by_cases q : v = 0 ∨ v = 1 <;> simp [zstp, zret, q, zaft]
/-- calls: what the callee answers, then on -/
theorem zaft_back {k : zS → Option zR} {pc : Nat} {ls : zL} {r : List zV} {q : Option zR} : zaft k (zback pc ls r q) = q.bind fun q => k (pc + 3, ls, q.1.toList ++ r, q.2) := by
  cases q <;> rfl
theorem ztake {as r : List zV} : (as.reverse ++ r).take as.length = as.reverse := by
  rw [List.take_append_of_le_length (by simp), List.take_of_length_le (by simp)]
theorem zdrop {as r : List zV} : (as.reverse ++ r).drop as.length = r := by
  rw [List.drop_append_of_le_length (by simp), List.drop_eq_nil_of_le (by simp), List.nil_append]
theorem ux_callS {i l : Nat} {k : Int} {q : Nat × Nat × Nat × String × String} {n mid : Nat} {as r st : List zV} (ho : zlk tb pc = some (.invokestatic i, l, k, [q])) (hk : k = (n : Int)) (hm : q.2.1 = mid) (hst : st = as.reverse ++ r) (hn : as.length = n) (hr : r.length ≤ 4) : zX d tb pc ls st h = (zcall (zP zM) d mid as h).bind fun q => zX d tb (pc + 3) ls (q.1.toList ++ r) q.2 := by
  subst hk; subst hm; subst hst; subst hn
  rw [zX_unf ho]
  simp only [zstp]
  rw [if_neg (by omega), if_neg (by omega), if_neg (by omega)]
  unfold zcallS
  simp only [Int.toNat_natCast]
  rw [if_pos (by simp; omega), zaft_back, ztake, zdrop, List.reverse_reverse]
theorem ux_callV {i l : Nat} {k : Int} {t : List (Nat × Nat × Nat × String × String)} {n a : Nat} {as r st : List zV} (ho : zlk tb pc = some (.invokevirtual i, l, k, t)) (hk : k = (n : Int)) (hst : st = as.reverse ++ .inr (.inr (some a)) :: r) (hn : as.length = n) (hr : r.length ≤ 4) : zX d tb pc ls st h = (zfind t (zk h a).1).bind fun mid => (zcall (zP zM) d mid (.inr (.inr (some a)) :: as) h).bind fun q => zX d tb (pc + 3) ls (q.1.toList ++ r) q.2 := by
  subst hk; subst hst; subst hn
  rw [zX_unf ho]
  simp only [zstp]
  unfold zcallV
  simp only [Int.toNat_natCast, ztake, zdrop, List.reverse_reverse]
  rw [if_pos hr, zaft_bind]
  simp only [zaft_back]
theorem ux_callI {i l : Nat} {k : Int} {q : Nat × Nat × Nat × String × String} {n a mid : Nat} {as r st : List zV} (ho : zlk tb pc = some (.invokespecial i, l, k, [q])) (hk : k = (n : Int)) (hm : q.2.1 = mid) (hst : st = as.reverse ++ .inr (.inr (some a)) :: r) (hn : as.length = n) (hr : r.length ≤ 4) : zX d tb pc ls st h = if (zk h a).1 < 12 then (zcall (zP zM) d mid (.inr (.inr (some a)) :: as) h).bind fun q => zX d tb (pc + 3) ls (q.1.toList ++ r) q.2 else none := by
  subst hk; subst hm; subst hst; subst hn
  rw [zX_unf ho]
  simp only [zstp]
  unfold zcallI
  have hne : ¬ ((as.length : Int) = -1) := by omega
  simp only [hne, if_false, Int.toNat_natCast, ztake, zdrop, List.reverse_reverse]
  rw [zaft_ite, zaft_back]
  simp only [hr, true_and]
  rfl
theorem ux_copy {i l : Nat} {t : List (Nat × Nat × Nat × String × String)} {n dp sp : Int32} {q a : Nat} (ho : zlk tb pc = some (.invokestatic i, l, -2, t)) : zX d tb pc ls [.inl n, .inl dp, .inr (.inr (some q)), .inl sp, .inr (.inr (some a))] h = if (zk h a).1 = 12 ∧ (zk h q).1 = 12 ∧ ¬ n < 0 ∧ ¬ dp < 0 ∧ ¬ sp < 0 ∧ sp.toNatClampNeg + n.toNatClampNeg ≤ (zk h a).2 ∧ dp.toNatClampNeg + n.toNatClampNeg ≤ (zk h q).2 then zX d tb (pc + 3) ls [] (zwC h a sp.toNatClampNeg q dp.toNatClampNeg n.toNatClampNeg) else none := by
  rw [zX_unf ho]
  simp only [zstp, if_pos, zcopy, zaft_ite, and_true]
  rfl
end ZEV
theorem zcl_i (x : Int32) : zcl (some (.inl x)) = some (.inl x) := rfl
theorem zcl_r (x : Option Nat) : zcl (some (.inr (.inr x))) = some (.inr (.inr x)) := rfl
theorem zcl_l (x : Int64) : zcl (some (.inr (.inl x))) = none := rfl
theorem zcl_0 : zcl none = none := rfl
end
section
/-- a table of one, two, three classes -/
theorem zfb_1 {α : Type} {c j m : Nat} {x y : String} (t : Nat) (f : Nat → Option α) : (zfind [(c, j, m, x, y)] t).bind f = if c = t then f j else none := by
  unfold zfind; split <;> rfl
theorem zfb_2 {α : Type} {c j m c2 j2 m2 : Nat} {x y x2 y2 : String} (t : Nat) (f : Nat → Option α) : (zfind [(c, j, m, x, y), (c2, j2, m2, x2, y2)] t).bind f = if c = t then f j else if c2 = t then f j2 else none := by
  unfold zfind; split
  · rfl
  · exact zfb_1 t f
theorem zfb_3 {α : Type} {c j m c2 j2 m2 c3 j3 m3 : Nat} {x y x2 y2 x3 y3 : String} (t : Nat) (f : Nat → Option α) : (zfind [(c, j, m, x, y), (c2, j2, m2, x2, y2), (c3, j3, m3, x3, y3)] t).bind f = if c = t then f j else if c2 = t then f j2 else if c3 = t then f j3 else none := by
  unfold zfind; split
  · rfl
  · exact zfb_2 t f
theorem e_X0_init {d : Nat} {h : zH} {v0 : Int32} {v1 : Int32} {v2 : Int32} {v3 : Int32} {v4 : Int32} {a : Nat} : zcall (zP zM) (d + 1) 0 [.inr (.inr (some a)), .inl v0, .inl v1, .inl v2, .inl v3, .inl v4] h = zX d tb_X0_init 0 [some (.inr (.inr (some a))), some (.inl v0), some (.inl v1), some (.inl v2), some (.inl v3), some (.inl v4)] [] h := (zcall_succ _ _ _ _ _).trans (if_pos (Nat.le_of_ble_eq_true rfl))
theorem u_X0_init_0 {d : Nat} {st : List zV} {h : zH} {l1 l2 l3 l4 l5 : Option zV} {x : (Option Nat)} : zX d tb_X0_init 0 [some (.inr (.inr x)), l1, l2, l3, l4, l5] st h = zX d tb_X0_init 1 [some (.inr (.inr x)), l1, l2, l3, l4, l5] (.inr (.inr x) :: st) h := (zX_unf (o := (.aload_n 0, 1, 0, [])) rfl).trans rfl
theorem u_X0_init_1 {d : Nat} {st : List zV} {h : zH} {l0 l2 l3 l4 l5 : Option zV} {x : Int32} : zX d tb_X0_init 1 [l0, some (.inl x), l2, l3, l4, l5] st h = zX d tb_X0_init 2 [l0, some (.inl x), l2, l3, l4, l5] (.inl x :: st) h := (zX_unf (o := (.iload_n 1, 1, 0, [])) rfl).trans rfl
theorem u_X0_init_2 {d : Nat} {st : List zV} {h : zH} {l0 l1 l3 l4 l5 : Option zV} {x : Int32} : zX d tb_X0_init 2 [l0, l1, some (.inl x), l3, l4, l5] st h = zX d tb_X0_init 3 [l0, l1, some (.inl x), l3, l4, l5] (.inl x :: st) h := (zX_unf (o := (.iload_n 2, 1, 0, [])) rfl).trans rfl
theorem u_X0_init_3 {d : Nat} {st : List zV} {h : zH} {l0 l1 l2 l4 l5 : Option zV} {x : Int32} : zX d tb_X0_init 3 [l0, l1, l2, some (.inl x), l4, l5] st h = zX d tb_X0_init 4 [l0, l1, l2, some (.inl x), l4, l5] (.inl x :: st) h := (zX_unf (o := (.iload_n 3, 1, 0, [])) rfl).trans rfl
theorem u_X0_init_4 {d : Nat} {st : List zV} {h : zH} {l0 l1 l2 l3 l5 : Option zV} {x : Int32} : zX d tb_X0_init 4 [l0, l1, l2, l3, some (.inl x), l5] st h = zX d tb_X0_init 6 [l0, l1, l2, l3, some (.inl x), l5] (.inl x :: st) h := (zX_unf (o := (.iload 4, 2, 0, [])) rfl).trans rfl
theorem u_X0_init_6 {d : Nat} {st : List zV} {h : zH} {l0 l1 l2 l3 l4 : Option zV} {x : Int32} : zX d tb_X0_init 6 [l0, l1, l2, l3, l4, some (.inl x)] st h = zX d tb_X0_init 8 [l0, l1, l2, l3, l4, some (.inl x)] (.inl x :: st) h := (zX_unf (o := (.iload 5, 2, 0, [])) rfl).trans rfl
theorem u_X0_init_8 {d : Nat} {ls : zL} {h : zH} {a : Nat} {v0 : Int32} {v1 : Int32} {v2 : Int32} {v3 : Int32} {v4 : Int32} : zX d tb_X0_init 8 ls [.inl v4, .inl v3, .inl v2, .inl v1, .inl v0, .inr (.inr (some a))] h = if (zk h a).1 < 12 then (zcall (zP zM) d 41 [.inr (.inr (some a)), .inl v0, .inl v1, .inl v2, .inl v3, .inl v4] h).bind fun q => zX d tb_X0_init 11 ls (q.1.toList ++ []) q.2 else none := ux_callI (as := [.inl v0, .inl v1, .inl v2, .inl v3, .inl v4]) (r := []) rfl (n := 5) rfl rfl rfl rfl (Nat.le_of_ble_eq_true rfl)
theorem u_X0_init_11 {d : Nat} {ls : zL} {h : zH} : zX d tb_X0_init 11 ls [] h = some (none, h) := (zX_unf (o := (.return_, 1, 0, [])) rfl).trans rfl
theorem e_X0_kind {d : Nat} {h : zH} {a : Nat} : zcall (zP zM) (d + 1) 1 [.inr (.inr (some a))] h = zX d tb_X0_kind 0 [some (.inr (.inr (some a)))] [] h := (zcall_succ _ _ _ _ _).trans (if_pos (Nat.le_of_ble_eq_true rfl))
theorem u_X0_kind_0 {d : Nat} {ls : zL} {st : List zV} {h : zH} : zX d tb_X0_kind 0 ls st h = zX d tb_X0_kind 1 ls (.inl 1 :: st) h := (zX_unf (o := (.iconst 1, 1, 0, [])) rfl).trans rfl
theorem u_X0_kind_1 {d : Nat} {ls : zL} {h : zH} {v : Int32} : zX d tb_X0_kind 1 ls [.inl v] h = some (some (.inl v), h) := (zX_unf (o := (.ireturn, 1, 0, [])) rfl).trans rfl
theorem e_X0_isAnswered {d : Nat} {h : zH} {v0 : Int32} {v1 : Int32} {a : Nat} : zcall (zP zM) (d + 1) 2 [.inr (.inr (some a)), .inl v0, .inl v1] h = zX d tb_X0_isAnswered 0 [some (.inr (.inr (some a))), some (.inl v0), some (.inl v1)] [] h := (zcall_succ _ _ _ _ _).trans (if_pos (Nat.le_of_ble_eq_true rfl))
theorem u_X0_isAnswered_0 {d : Nat} {st : List zV} {h : zH} {l0 l2 : Option zV} {x : Int32} : zX d tb_X0_isAnswered 0 [l0, some (.inl x), l2] st h = zX d tb_X0_isAnswered 1 [l0, some (.inl x), l2] (.inl x :: st) h := (zX_unf (o := (.iload_n 1, 1, 0, [])) rfl).trans rfl
theorem u_X0_isAnswered_1 {d : Nat} {st : List zV} {h : zH} {l1 l2 : Option zV} {x : (Option Nat)} : zX d tb_X0_isAnswered 1 [some (.inr (.inr x)), l1, l2] st h = zX d tb_X0_isAnswered 2 [some (.inr (.inr x)), l1, l2] (.inr (.inr x) :: st) h := (zX_unf (o := (.aload_n 0, 1, 0, [])) rfl).trans rfl
theorem u_X0_isAnswered_2 {d : Nat} {ls : zL} {st : List zV} {h : zH} {a : Nat} : zX d tb_X0_isAnswered 2 ls (.inr (.inr (some a)) :: st) h = if 0 = (zk h a).1 then zX d tb_X0_isAnswered 5 ls (.inl (zi h a 1) :: st) h else if 5 = (zk h a).1 then zX d tb_X0_isAnswered 5 ls (.inl (zi h a 1) :: st) h else none := (ux_get (t := [(0, 1, 1, "CorpseTales$DoubleTale", ""), (5, 1, 1, "CorpseTales$DoubleTale", "")]) rfl (by decide)).trans (zfb_2 _ _)
theorem u_X0_isAnswered_5 {d : Nat} {ls : zL} {h : zH} {v0 : Int32} {v1 : Int32} : zX d tb_X0_isAnswered 5 ls [.inl v1, .inl v0] h = (zcall (zP zM) d 82 [.inl v0, .inl v1] h).bind fun q => zX d tb_X0_isAnswered 8 ls (q.1.toList ++ []) q.2 := ux_callS (as := [.inl v0, .inl v1]) (r := []) rfl (n := 2) rfl rfl rfl rfl (Nat.le_of_ble_eq_true rfl)
theorem u_X0_isAnswered_8 {d : Nat} {ls : zL} {st : List zV} {h : zH} {x : Int32} : zX d tb_X0_isAnswered 8 ls (.inl x :: st) h = if x = 0 then zX d tb_X0_isAnswered 26 ls st h else zX d tb_X0_isAnswered 11 ls st h := ux_if_eq rfl rfl
theorem u_X0_isAnswered_11 {d : Nat} {st : List zV} {h : zH} {l0 l2 : Option zV} {x : Int32} : zX d tb_X0_isAnswered 11 [l0, some (.inl x), l2] st h = zX d tb_X0_isAnswered 12 [l0, some (.inl x), l2] (.inl x :: st) h := (zX_unf (o := (.iload_n 1, 1, 0, [])) rfl).trans rfl
theorem u_X0_isAnswered_12 {d : Nat} {st : List zV} {h : zH} {l1 l2 : Option zV} {x : (Option Nat)} : zX d tb_X0_isAnswered 12 [some (.inr (.inr x)), l1, l2] st h = zX d tb_X0_isAnswered 13 [some (.inr (.inr x)), l1, l2] (.inr (.inr x) :: st) h := (zX_unf (o := (.aload_n 0, 1, 0, [])) rfl).trans rfl
theorem u_X0_isAnswered_13 {d : Nat} {ls : zL} {st : List zV} {h : zH} {a : Nat} : zX d tb_X0_isAnswered 13 ls (.inr (.inr (some a)) :: st) h = if 0 = (zk h a).1 then zX d tb_X0_isAnswered 16 ls (.inl (zi h a 2) :: st) h else if 5 = (zk h a).1 then zX d tb_X0_isAnswered 16 ls (.inl (zi h a 2) :: st) h else none := (ux_get (t := [(0, 2, 1, "CorpseTales$DoubleTale", ""), (5, 2, 1, "CorpseTales$DoubleTale", "")]) rfl (by decide)).trans (zfb_2 _ _)
theorem u_X0_isAnswered_16 {d : Nat} {ls : zL} {h : zH} {v0 : Int32} {v1 : Int32} : zX d tb_X0_isAnswered 16 ls [.inl v1, .inl v0] h = (zcall (zP zM) d 82 [.inl v0, .inl v1] h).bind fun q => zX d tb_X0_isAnswered 19 ls (q.1.toList ++ []) q.2 := ux_callS (as := [.inl v0, .inl v1]) (r := []) rfl (n := 2) rfl rfl rfl rfl (Nat.le_of_ble_eq_true rfl)
theorem u_X0_isAnswered_19 {d : Nat} {ls : zL} {st : List zV} {h : zH} {x : Int32} : zX d tb_X0_isAnswered 19 ls (.inl x :: st) h = if x = 0 then zX d tb_X0_isAnswered 26 ls st h else zX d tb_X0_isAnswered 22 ls st h := ux_if_eq rfl rfl
theorem u_X0_isAnswered_22 {d : Nat} {ls : zL} {st : List zV} {h : zH} : zX d tb_X0_isAnswered 22 ls st h = zX d tb_X0_isAnswered 23 ls (.inl 1 :: st) h := (zX_unf (o := (.iconst 1, 1, 0, [])) rfl).trans rfl
theorem u_X0_isAnswered_23 {d : Nat} {ls : zL} {st : List zV} {h : zH} : zX d tb_X0_isAnswered 23 ls st h = zX d tb_X0_isAnswered 27 ls st h := (zX_unf (o := (.goto 4, 3, 0, [])) rfl).trans rfl
theorem u_X0_isAnswered_26 {d : Nat} {ls : zL} {st : List zV} {h : zH} : zX d tb_X0_isAnswered 26 ls st h = zX d tb_X0_isAnswered 27 ls (.inl 0 :: st) h := (zX_unf (o := (.iconst 0, 1, 0, [])) rfl).trans rfl
theorem u_X0_isAnswered_27 {d : Nat} {ls : zL} {h : zH} {v : Int32} : zX d tb_X0_isAnswered 27 ls [.inl v] h = if v = 0 ∨ v = 1 then some (some (.inl v), h) else none := ux_zret rfl
theorem e_X0_oddsUnanswered {d : Nat} {h : zH} {v0 : Int32} {a : Nat} : zcall (zP zM) (d + 1) 3 [.inr (.inr (some a)), .inl v0] h = zX d tb_X0_oddsUnanswered 0 [some (.inr (.inr (some a))), some (.inl v0)] [] h := (zcall_succ _ _ _ _ _).trans (if_pos (Nat.le_of_ble_eq_true rfl))
theorem u_X0_oddsUnanswered_0 {d : Nat} {st : List zV} {h : zH} {l1 : Option zV} {x : (Option Nat)} : zX d tb_X0_oddsUnanswered 0 [some (.inr (.inr x)), l1] st h = zX d tb_X0_oddsUnanswered 1 [some (.inr (.inr x)), l1] (.inr (.inr x) :: st) h := (zX_unf (o := (.aload_n 0, 1, 0, [])) rfl).trans rfl
theorem u_X0_oddsUnanswered_1 {d : Nat} {ls : zL} {st : List zV} {h : zH} {a : Nat} : zX d tb_X0_oddsUnanswered 1 ls (.inr (.inr (some a)) :: st) h = if 0 = (zk h a).1 then zX d tb_X0_oddsUnanswered 4 ls (.inl (zi h a 1) :: st) h else if 5 = (zk h a).1 then zX d tb_X0_oddsUnanswered 4 ls (.inl (zi h a 1) :: st) h else none := (ux_get (t := [(0, 1, 1, "CorpseTales$DoubleTale", ""), (5, 1, 1, "CorpseTales$DoubleTale", "")]) rfl (by decide)).trans (zfb_2 _ _)
theorem u_X0_oddsUnanswered_4 {d : Nat} {st : List zV} {h : zH} {l1 : Option zV} {x : (Option Nat)} : zX d tb_X0_oddsUnanswered 4 [some (.inr (.inr x)), l1] st h = zX d tb_X0_oddsUnanswered 5 [some (.inr (.inr x)), l1] (.inr (.inr x) :: st) h := (zX_unf (o := (.aload_n 0, 1, 0, [])) rfl).trans rfl
theorem u_X0_oddsUnanswered_5 {d : Nat} {ls : zL} {st : List zV} {h : zH} {a : Nat} : zX d tb_X0_oddsUnanswered 5 ls (.inr (.inr (some a)) :: st) h = if 0 = (zk h a).1 then zX d tb_X0_oddsUnanswered 8 ls (.inl (zi h a 2) :: st) h else if 5 = (zk h a).1 then zX d tb_X0_oddsUnanswered 8 ls (.inl (zi h a 2) :: st) h else none := (ux_get (t := [(0, 2, 1, "CorpseTales$DoubleTale", ""), (5, 2, 1, "CorpseTales$DoubleTale", "")]) rfl (by decide)).trans (zfb_2 _ _)
theorem u_X0_oddsUnanswered_8 {d : Nat} {ls : zL} {st : List zV} {h : zH} {x y : Int32} : zX d tb_X0_oddsUnanswered 8 ls (.inl y :: .inl x :: st) h = if x = y then zX d tb_X0_oddsUnanswered 11 ls st h else zX d tb_X0_oddsUnanswered 19 ls st h := ux_ic_ne rfl rfl
theorem u_X0_oddsUnanswered_11 {d : Nat} {st : List zV} {h : zH} {l1 : Option zV} {x : (Option Nat)} : zX d tb_X0_oddsUnanswered 11 [some (.inr (.inr x)), l1] st h = zX d tb_X0_oddsUnanswered 12 [some (.inr (.inr x)), l1] (.inr (.inr x) :: st) h := (zX_unf (o := (.aload_n 0, 1, 0, [])) rfl).trans rfl
theorem u_X0_oddsUnanswered_12 {d : Nat} {st : List zV} {h : zH} {l0 : Option zV} {x : Int32} : zX d tb_X0_oddsUnanswered 12 [l0, some (.inl x)] st h = zX d tb_X0_oddsUnanswered 13 [l0, some (.inl x)] (.inl x :: st) h := (zX_unf (o := (.iload_n 1, 1, 0, [])) rfl).trans rfl
theorem u_X0_oddsUnanswered_13 {d : Nat} {ls : zL} {h : zH} {a : Nat} {v0 : Int32} : zX d tb_X0_oddsUnanswered 13 ls [.inl v0, .inr (.inr (some a))] h = if (zk h a).1 < 12 then (zcall (zP zM) d 45 [.inr (.inr (some a)), .inl v0] h).bind fun q => zX d tb_X0_oddsUnanswered 16 ls (q.1.toList ++ []) q.2 else none := ux_callI (as := [.inl v0]) (r := []) rfl (n := 1) rfl rfl rfl rfl (Nat.le_of_ble_eq_true rfl)
theorem u_X0_oddsUnanswered_16 {d : Nat} {ls : zL} {st : List zV} {h : zH} : zX d tb_X0_oddsUnanswered 16 ls st h = zX d tb_X0_oddsUnanswered 25 ls st h := (zX_unf (o := (.goto 9, 3, 0, [])) rfl).trans rfl
theorem u_X0_oddsUnanswered_19 {d : Nat} {ls : zL} {st : List zV} {h : zH} : zX d tb_X0_oddsUnanswered 19 ls st h = zX d tb_X0_oddsUnanswered 21 ls (.inl 64 :: st) h := (zX_unf (o := (.bipush 64, 2, 0, [])) rfl).trans rfl
theorem u_X0_oddsUnanswered_21 {d : Nat} {st : List zV} {h : zH} {l0 : Option zV} {x : Int32} : zX d tb_X0_oddsUnanswered 21 [l0, some (.inl x)] st h = zX d tb_X0_oddsUnanswered 22 [l0, some (.inl x)] (.inl x :: st) h := (zX_unf (o := (.iload_n 1, 1, 0, [])) rfl).trans rfl
theorem u_X0_oddsUnanswered_22 {d : Nat} {st : List zV} {h : zH} {l0 : Option zV} {x : Int32} : zX d tb_X0_oddsUnanswered 22 [l0, some (.inl x)] st h = zX d tb_X0_oddsUnanswered 23 [l0, some (.inl x)] (.inl x :: st) h := (zX_unf (o := (.iload_n 1, 1, 0, [])) rfl).trans rfl
theorem u_X0_oddsUnanswered_23 {d : Nat} {ls : zL} {st : List zV} {h : zH} {x y : Int32} : zX d tb_X0_oddsUnanswered 23 ls (.inl y :: .inl x :: st) h = zX d tb_X0_oddsUnanswered 24 ls (.inl (x * y) :: st) h := (zX_unf (o := (.imul, 1, 0, [])) rfl).trans rfl
theorem u_X0_oddsUnanswered_24 {d : Nat} {ls : zL} {st : List zV} {h : zH} {x y : Int32} : zX d tb_X0_oddsUnanswered 24 ls (.inl y :: .inl x :: st) h = zX d tb_X0_oddsUnanswered 25 ls (.inl (x - y) :: st) h := (zX_unf (o := (.isub, 1, 0, [])) rfl).trans rfl
theorem u_X0_oddsUnanswered_25 {d : Nat} {ls : zL} {h : zH} {v : Int32} : zX d tb_X0_oddsUnanswered 25 ls [.inl v] h = some (some (.inl v), h) := (zX_unf (o := (.ireturn, 1, 0, [])) rfl).trans rfl
theorem e_X0_telling {d : Nat} {h : zH} {v0 : (Option Nat)} {a : Nat} : zcall (zP zM) (d + 1) 4 [.inr (.inr (some a)), .inr (.inr v0)] h = zX d tb_X0_telling 0 [some (.inr (.inr (some a))), some (.inr (.inr v0))] [] h := (zcall_succ _ _ _ _ _).trans (if_pos (Nat.le_of_ble_eq_true rfl))
theorem u_X0_telling_0 {d : Nat} {st : List zV} {h : zH} {l0 : Option zV} {x : (Option Nat)} : zX d tb_X0_telling 0 [l0, some (.inr (.inr x))] st h = zX d tb_X0_telling 1 [l0, some (.inr (.inr x))] (.inr (.inr x) :: st) h := (zX_unf (o := (.aload_n 1, 1, 0, [])) rfl).trans rfl
theorem u_X0_telling_1 {d : Nat} {ls : zL} {st : List zV} {h : zH} : zX d tb_X0_telling 1 ls st h = zX d tb_X0_telling 2 ls (.inl 2 :: st) h := (zX_unf (o := (.iconst 2, 1, 0, [])) rfl).trans rfl
theorem u_X0_telling_2 {d : Nat} {ls : zL} {h : zH} {a : Nat} {v0 : Int32} : zX d tb_X0_telling 2 ls [.inl v0, .inr (.inr (some a))] h = if 9 = (zk h a).1 then (zcall (zP zM) d 50 [.inr (.inr (some a)), .inl v0] h).bind (fun q => zX d tb_X0_telling 5 ls (q.1.toList ++ []) q.2) else none := (ux_callV (t := [(9, 50, 0, "", "")]) (as := [.inl v0]) (r := []) rfl (n := 1) rfl rfl rfl (Nat.le_of_ble_eq_true rfl)).trans (zfb_1 _ _)
theorem u_X0_telling_5 {d : Nat} {st : List zV} {h : zH} {l1 : Option zV} {x : (Option Nat)} : zX d tb_X0_telling 5 [some (.inr (.inr x)), l1] st h = zX d tb_X0_telling 6 [some (.inr (.inr x)), l1] (.inr (.inr x) :: st) h := (zX_unf (o := (.aload_n 0, 1, 0, [])) rfl).trans rfl
theorem u_X0_telling_6 {d : Nat} {st : List zV} {h : zH} {l0 : Option zV} {x : (Option Nat)} : zX d tb_X0_telling 6 [l0, some (.inr (.inr x))] st h = zX d tb_X0_telling 7 [l0, some (.inr (.inr x))] (.inr (.inr x) :: st) h := (zX_unf (o := (.aload_n 1, 1, 0, [])) rfl).trans rfl
theorem u_X0_telling_7 {d : Nat} {ls : zL} {h : zH} {a : Nat} {v0 : (Option Nat)} : zX d tb_X0_telling 7 ls [.inr (.inr v0), .inr (.inr (some a))] h = if (zk h a).1 < 12 then (zcall (zP zM) d 46 [.inr (.inr (some a)), .inr (.inr v0)] h).bind fun q => zX d tb_X0_telling 10 ls (q.1.toList ++ []) q.2 else none := ux_callI (as := [.inr (.inr v0)]) (r := []) rfl (n := 1) rfl rfl rfl rfl (Nat.le_of_ble_eq_true rfl)
theorem u_X0_telling_10 {d : Nat} {ls : zL} {st : List zV} {h : zH} : zX d tb_X0_telling 10 ls st h = zX d tb_X0_telling 12 ls (.inl 100 :: st) h := (zX_unf (o := (.bipush 100, 2, 0, [])) rfl).trans rfl
theorem u_X0_telling_12 {d : Nat} {ls : zL} {st : List zV} {h : zH} {x y : Int32} : zX d tb_X0_telling 12 ls (.inl y :: .inl x :: st) h = zX d tb_X0_telling 13 ls (.inl (x + y) :: st) h := (zX_unf (o := (.iadd, 1, 0, [])) rfl).trans rfl
theorem u_X0_telling_13 {d : Nat} {ls : zL} {h : zH} {v : Int32} : zX d tb_X0_telling 13 ls [.inl v] h = some (some (.inl v), h) := (zX_unf (o := (.ireturn, 1, 0, [])) rfl).trans rfl
theorem e_X1_init {d : Nat} {h : zH} {a : Nat} : zcall (zP zM) (d + 1) 5 [.inr (.inr (some a))] h = zX d tb_X1_init 0 [some (.inr (.inr (some a)))] [] h := (zcall_succ _ _ _ _ _).trans (if_pos (Nat.le_of_ble_eq_true rfl))
theorem u_X1_init_0 {d : Nat} {st : List zV} {h : zH} {x : (Option Nat)} : zX d tb_X1_init 0 [some (.inr (.inr x))] st h = zX d tb_X1_init 1 [some (.inr (.inr x))] (.inr (.inr x) :: st) h := (zX_unf (o := (.aload_n 0, 1, 0, [])) rfl).trans rfl
theorem u_X1_init_1 {d : Nat} {ls : zL} {h : zH} {a : Nat} : zX d tb_X1_init 1 ls [.inr (.inr (some a))] h = zX d tb_X1_init 4 ls [] h := (zX_unf (o := (.invokespecial 3, 3, (-1), [])) rfl).trans rfl
theorem u_X1_init_4 {d : Nat} {st : List zV} {h : zH} {x : (Option Nat)} : zX d tb_X1_init 4 [some (.inr (.inr x))] st h = zX d tb_X1_init 5 [some (.inr (.inr x))] (.inr (.inr x) :: st) h := (zX_unf (o := (.aload_n 0, 1, 0, [])) rfl).trans rfl
theorem u_X1_init_5 {d : Nat} {ls : zL} {st : List zV} {h : zH} : zX d tb_X1_init 5 ls st h = zX d tb_X1_init 6 ls (.inl 0 :: st) h := (zX_unf (o := (.iconst 0, 1, 0, [])) rfl).trans rfl
theorem u_X1_init_6 {d : Nat} {ls : zL} {st : List zV} {h : zH} {a : Nat} {v : Int32} : zX d tb_X1_init 6 ls (.inl v :: .inr (.inr (some a)) :: st) h = if 1 = (zk h a).1 then zX d tb_X1_init 9 ls st (zwI h a 0 v) else none := (ux_put (t := [(1, 0, 0, "", "")]) rfl).trans (zfb_1 _ _)
theorem u_X1_init_9 {d : Nat} {st : List zV} {h : zH} {x : (Option Nat)} : zX d tb_X1_init 9 [some (.inr (.inr x))] st h = zX d tb_X1_init 10 [some (.inr (.inr x))] (.inr (.inr x) :: st) h := (zX_unf (o := (.aload_n 0, 1, 0, [])) rfl).trans rfl
theorem u_X1_init_10 {d : Nat} {ls : zL} {st : List zV} {h : zH} : zX d tb_X1_init 10 ls st h = zX d tb_X1_init 11 ls (.inl 0 :: st) h := (zX_unf (o := (.iconst 0, 1, 0, [])) rfl).trans rfl
theorem u_X1_init_11 {d : Nat} {ls : zL} {st : List zV} {h : zH} {a : Nat} {v : Int32} : zX d tb_X1_init 11 ls (.inl v :: .inr (.inr (some a)) :: st) h = if 1 = (zk h a).1 then zX d tb_X1_init 14 ls st (zwI h a 1 v) else none := (ux_put (t := [(1, 1, 0, "", "")]) rfl).trans (zfb_1 _ _)
theorem u_X1_init_14 {d : Nat} {st : List zV} {h : zH} {x : (Option Nat)} : zX d tb_X1_init 14 [some (.inr (.inr x))] st h = zX d tb_X1_init 15 [some (.inr (.inr x))] (.inr (.inr x) :: st) h := (zX_unf (o := (.aload_n 0, 1, 0, [])) rfl).trans rfl
theorem u_X1_init_15 {d : Nat} {ls : zL} {st : List zV} {h : zH} : zX d tb_X1_init 15 ls st h = zX d tb_X1_init 17 ls (.inl 8 :: st) h := (zX_unf (o := (.bipush 8, 2, 0, [])) rfl).trans rfl
theorem u_X1_init_17 {d : Nat} {ls : zL} {st : List zV} {h : zH} {n : Int32} : zX d tb_X1_init 17 ls (.inl n :: st) h = if n < 0 ∨ 1000 < n.toNatClampNeg then none else zX d tb_X1_init 20 ls (.inr (.inr (some (zn h))) :: st) (zN h 13 n.toNatClampNeg n.toNatClampNeg) := ux_anew rfl rfl
theorem u_X1_init_20 {d : Nat} {ls : zL} {st : List zV} {h : zH} {a : Nat} {r : Option Nat} : zX d tb_X1_init 20 ls (.inr (.inr r) :: .inr (.inr (some a)) :: st) h = if 1 = (zk h a).1 then zX d tb_X1_init 23 ls st (zwR h a 2 r) else none := (ux_putr (t := [(1, 2, 0, "", "")]) rfl).trans (zfb_1 _ _)
theorem u_X1_init_23 {d : Nat} {ls : zL} {h : zH} : zX d tb_X1_init 23 ls [] h = some (none, h) := (zX_unf (o := (.return_, 1, 0, [])) rfl).trans rfl
theorem e_X1_taleAt {d : Nat} {h : zH} {v0 : Int32} {a : Nat} : zcall (zP zM) (d + 1) 6 [.inr (.inr (some a)), .inl v0] h = zX d tb_X1_taleAt 0 [some (.inr (.inr (some a))), some (.inl v0)] [] h := (zcall_succ _ _ _ _ _).trans (if_pos (Nat.le_of_ble_eq_true rfl))
theorem u_X1_taleAt_0 {d : Nat} {st : List zV} {h : zH} {l0 : Option zV} {x : Int32} : zX d tb_X1_taleAt 0 [l0, some (.inl x)] st h = zX d tb_X1_taleAt 1 [l0, some (.inl x)] (.inl x :: st) h := (zX_unf (o := (.iload_n 1, 1, 0, [])) rfl).trans rfl
theorem u_X1_taleAt_1 {d : Nat} {ls : zL} {st : List zV} {h : zH} {x : Int32} : zX d tb_X1_taleAt 1 ls (.inl x :: st) h = if x < 0 then zX d tb_X1_taleAt 27 ls st h else zX d tb_X1_taleAt 4 ls st h := ux_if_lt rfl rfl
theorem u_X1_taleAt_4 {d : Nat} {st : List zV} {h : zH} {l0 : Option zV} {x : Int32} : zX d tb_X1_taleAt 4 [l0, some (.inl x)] st h = zX d tb_X1_taleAt 5 [l0, some (.inl x)] (.inl x :: st) h := (zX_unf (o := (.iload_n 1, 1, 0, [])) rfl).trans rfl
theorem u_X1_taleAt_5 {d : Nat} {st : List zV} {h : zH} {l1 : Option zV} {x : (Option Nat)} : zX d tb_X1_taleAt 5 [some (.inr (.inr x)), l1] st h = zX d tb_X1_taleAt 6 [some (.inr (.inr x)), l1] (.inr (.inr x) :: st) h := (zX_unf (o := (.aload_n 0, 1, 0, [])) rfl).trans rfl
theorem u_X1_taleAt_6 {d : Nat} {ls : zL} {st : List zV} {h : zH} {a : Nat} : zX d tb_X1_taleAt 6 ls (.inr (.inr (some a)) :: st) h = if 1 = (zk h a).1 then zX d tb_X1_taleAt 9 ls (.inl (zi h a 1) :: st) h else none := (ux_get (t := [(1, 1, 0, "", "")]) rfl (by decide)).trans (zfb_1 _ _)
theorem u_X1_taleAt_9 {d : Nat} {ls : zL} {st : List zV} {h : zH} {x y : Int32} : zX d tb_X1_taleAt 9 ls (.inl y :: .inl x :: st) h = if x < y then zX d tb_X1_taleAt 12 ls st h else zX d tb_X1_taleAt 27 ls st h := ux_ic_ge rfl rfl
theorem u_X1_taleAt_12 {d : Nat} {st : List zV} {h : zH} {l0 : Option zV} {x : Int32} : zX d tb_X1_taleAt 12 [l0, some (.inl x)] st h = zX d tb_X1_taleAt 13 [l0, some (.inl x)] (.inl x :: st) h := (zX_unf (o := (.iload_n 1, 1, 0, [])) rfl).trans rfl
theorem u_X1_taleAt_13 {d : Nat} {ls : zL} {st : List zV} {h : zH} : zX d tb_X1_taleAt 13 ls st h = zX d tb_X1_taleAt 15 ls (.inl 8 :: st) h := (zX_unf (o := (.bipush 8, 2, 0, [])) rfl).trans rfl
theorem u_X1_taleAt_15 {d : Nat} {ls : zL} {st : List zV} {h : zH} {x y : Int32} : zX d tb_X1_taleAt 15 ls (.inl y :: .inl x :: st) h = if x < y then zX d tb_X1_taleAt 18 ls st h else zX d tb_X1_taleAt 27 ls st h := ux_ic_ge rfl rfl
theorem u_X1_taleAt_18 {d : Nat} {st : List zV} {h : zH} {l1 : Option zV} {x : (Option Nat)} : zX d tb_X1_taleAt 18 [some (.inr (.inr x)), l1] st h = zX d tb_X1_taleAt 19 [some (.inr (.inr x)), l1] (.inr (.inr x) :: st) h := (zX_unf (o := (.aload_n 0, 1, 0, [])) rfl).trans rfl
theorem u_X1_taleAt_19 {d : Nat} {ls : zL} {st : List zV} {h : zH} {a : Nat} : zX d tb_X1_taleAt 19 ls (.inr (.inr (some a)) :: st) h = if 1 = (zk h a).1 then zX d tb_X1_taleAt 22 ls (.inr (.inr (zr h a 2)) :: st) h else none := (ux_getr (t := [(1, 2, 0, "", "")]) rfl).trans (zfb_1 _ _)
theorem u_X1_taleAt_22 {d : Nat} {st : List zV} {h : zH} {l0 : Option zV} {x : Int32} : zX d tb_X1_taleAt 22 [l0, some (.inl x)] st h = zX d tb_X1_taleAt 23 [l0, some (.inl x)] (.inl x :: st) h := (zX_unf (o := (.iload_n 1, 1, 0, [])) rfl).trans rfl
theorem u_X1_taleAt_23 {d : Nat} {ls : zL} {st : List zV} {h : zH} {a : Nat} {i : Int32} : zX d tb_X1_taleAt 23 ls (.inl i :: .inr (.inr (some a)) :: st) h = if 13 ≤ (zk h a).1 ∧ (zk h a).1 ≤ 15 then (zix i (zk h a).2).bind fun j => zX d tb_X1_taleAt 24 ls (.inr (.inr (zr h a j)) :: st) h else none := ux_aald rfl
theorem u_X1_taleAt_24 {d : Nat} {ls : zL} {st : List zV} {h : zH} : zX d tb_X1_taleAt 24 ls st h = zX d tb_X1_taleAt 28 ls st h := (zX_unf (o := (.goto 4, 3, 0, [])) rfl).trans rfl
theorem u_X1_taleAt_27 {d : Nat} {ls : zL} {st : List zV} {h : zH} : zX d tb_X1_taleAt 27 ls st h = zX d tb_X1_taleAt 28 ls (.inr (.inr none) :: st) h := (zX_unf (o := (.aconst_null, 1, 0, [])) rfl).trans rfl
theorem u_X1_taleAt_28 {d : Nat} {ls : zL} {h : zH} {v : Option Nat} : zX d tb_X1_taleAt 28 ls [.inr (.inr v)] h = some (some (.inr (.inr v)), h) := (zX_unf (o := (.areturn, 1, 0, [])) rfl).trans rfl
theorem e_X1_firstFault {d : Nat} {h : zH} {v0 : (Option Nat)} {v1 : Int32} {v2 : Int32} : zcall (zP zM) (d + 1) 7 [.inr (.inr v0), .inl v1, .inl v2] h = zX d tb_X1_firstFault 0 [some (.inr (.inr v0)), some (.inl v1), some (.inl v2), none] [] h := (zcall_succ _ _ _ _ _).trans (if_pos (Nat.le_of_ble_eq_true rfl))
theorem u_X1_firstFault_0 {d : Nat} {ls : zL} {st : List zV} {h : zH} : zX d tb_X1_firstFault 0 ls st h = zX d tb_X1_firstFault 1 ls (.inl 0 :: st) h := (zX_unf (o := (.iconst 0, 1, 0, [])) rfl).trans rfl
theorem u_X1_firstFault_1 {d : Nat} {st : List zV} {h : zH} {l0 l1 l2 l3 : Option zV} {x : Int32} : zX d tb_X1_firstFault 1 [l0, l1, l2, l3] (.inl x :: st) h = zX d tb_X1_firstFault 2 [l0, l1, zcl l2, some (.inl x)] st h := (zX_unf (o := (.istore_n 3, 1, 0, [])) rfl).trans rfl
theorem u_X1_firstFault_2 {d : Nat} {st : List zV} {h : zH} {l0 l1 l2 : Option zV} {x : Int32} : zX d tb_X1_firstFault 2 [l0, l1, l2, some (.inl x)] st h = zX d tb_X1_firstFault 3 [l0, l1, l2, some (.inl x)] (.inl x :: st) h := (zX_unf (o := (.iload_n 3, 1, 0, [])) rfl).trans rfl
theorem u_X1_firstFault_3 {d : Nat} {st : List zV} {h : zH} {l0 l1 l3 : Option zV} {x : Int32} : zX d tb_X1_firstFault 3 [l0, l1, some (.inl x), l3] st h = zX d tb_X1_firstFault 4 [l0, l1, some (.inl x), l3] (.inl x :: st) h := (zX_unf (o := (.iload_n 2, 1, 0, [])) rfl).trans rfl
theorem u_X1_firstFault_4 {d : Nat} {ls : zL} {st : List zV} {h : zH} {x y : Int32} : zX d tb_X1_firstFault 4 ls (.inl y :: .inl x :: st) h = if x < y then zX d tb_X1_firstFault 7 ls st h else zX d tb_X1_firstFault 29 ls st h := ux_ic_ge rfl rfl
theorem u_X1_firstFault_7 {d : Nat} {st : List zV} {h : zH} {l0 l1 l2 : Option zV} {x : Int32} : zX d tb_X1_firstFault 7 [l0, l1, l2, some (.inl x)] st h = zX d tb_X1_firstFault 8 [l0, l1, l2, some (.inl x)] (.inl x :: st) h := (zX_unf (o := (.iload_n 3, 1, 0, [])) rfl).trans rfl
theorem u_X1_firstFault_8 {d : Nat} {st : List zV} {h : zH} {l1 l2 l3 : Option zV} {x : (Option Nat)} : zX d tb_X1_firstFault 8 [some (.inr (.inr x)), l1, l2, l3] st h = zX d tb_X1_firstFault 9 [some (.inr (.inr x)), l1, l2, l3] (.inr (.inr x) :: st) h := (zX_unf (o := (.aload_n 0, 1, 0, [])) rfl).trans rfl
theorem u_X1_firstFault_9 {d : Nat} {st : List zV} {h : zH} {l0 l2 l3 : Option zV} {x : Int32} : zX d tb_X1_firstFault 9 [l0, some (.inl x), l2, l3] st h = zX d tb_X1_firstFault 10 [l0, some (.inl x), l2, l3] (.inl x :: st) h := (zX_unf (o := (.iload_n 1, 1, 0, [])) rfl).trans rfl
theorem u_X1_firstFault_10 {d : Nat} {st : List zV} {h : zH} {l0 l1 l2 : Option zV} {x : Int32} : zX d tb_X1_firstFault 10 [l0, l1, l2, some (.inl x)] st h = zX d tb_X1_firstFault 11 [l0, l1, l2, some (.inl x)] (.inl x :: st) h := (zX_unf (o := (.iload_n 3, 1, 0, [])) rfl).trans rfl
theorem u_X1_firstFault_11 {d : Nat} {ls : zL} {st : List zV} {h : zH} {x y : Int32} : zX d tb_X1_firstFault 11 ls (.inl y :: .inl x :: st) h = zX d tb_X1_firstFault 12 ls (.inl (x + y) :: st) h := (zX_unf (o := (.iadd, 1, 0, [])) rfl).trans rfl
theorem u_X1_firstFault_12 {d : Nat} {ls : zL} {h : zH} {a : Nat} {v0 : Int32} {r0 : zV} : zX d tb_X1_firstFault 12 ls [.inl v0, .inr (.inr (some a)), r0] h = if 7 = (zk h a).1 then (zcall (zP zM) d 39 [.inr (.inr (some a)), .inl v0] h).bind (fun q => zX d tb_X1_firstFault 15 ls (q.1.toList ++ [r0]) q.2) else none := (ux_callV (t := [(7, 39, 0, "", "")]) (as := [.inl v0]) (r := [r0]) rfl (n := 1) rfl rfl rfl (Nat.le_of_ble_eq_true rfl)).trans (zfb_1 _ _)
theorem u_X1_firstFault_15 {d : Nat} {ls : zL} {h : zH} {v0 : Int32} {v1 : Int32} : zX d tb_X1_firstFault 15 ls [.inl v1, .inl v0] h = (zcall (zP zM) d 8 [.inl v0, .inl v1] h).bind fun q => zX d tb_X1_firstFault 18 ls (q.1.toList ++ []) q.2 := ux_callS (as := [.inl v0, .inl v1]) (r := []) rfl (n := 2) rfl rfl rfl rfl (Nat.le_of_ble_eq_true rfl)
theorem u_X1_firstFault_18 {d : Nat} {ls : zL} {st : List zV} {h : zH} {x : Int32} : zX d tb_X1_firstFault 18 ls (.inl x :: st) h = if x = 0 then zX d tb_X1_firstFault 21 ls st h else zX d tb_X1_firstFault 23 ls st h := ux_if_ne rfl rfl
theorem u_X1_firstFault_21 {d : Nat} {st : List zV} {h : zH} {l0 l1 l2 : Option zV} {x : Int32} : zX d tb_X1_firstFault 21 [l0, l1, l2, some (.inl x)] st h = zX d tb_X1_firstFault 22 [l0, l1, l2, some (.inl x)] (.inl x :: st) h := (zX_unf (o := (.iload_n 3, 1, 0, [])) rfl).trans rfl
theorem u_X1_firstFault_22 {d : Nat} {ls : zL} {h : zH} {v : Int32} : zX d tb_X1_firstFault 22 ls [.inl v] h = some (some (.inl v), h) := (zX_unf (o := (.ireturn, 1, 0, [])) rfl).trans rfl
theorem u_X1_firstFault_23 {d : Nat} {st : List zV} {h : zH} {l0 l1 l2 : Option zV} {x : Int32} : zX d tb_X1_firstFault 23 [l0, l1, l2, some (.inl x)] st h = zX d tb_X1_firstFault 26 [l0, l1, zcl l2, some (.inl (x + 1))] st h := (zX_unf (o := (.iinc 3 1, 3, 0, [])) rfl).trans rfl
theorem u_X1_firstFault_26 {d : Nat} {ls : zL} {st : List zV} {h : zH} : zX d tb_X1_firstFault 26 ls st h = zX d tb_X1_firstFault 2 ls st h := (zX_unf (o := (.goto (-24), 3, 0, [])) rfl).trans rfl
theorem u_X1_firstFault_29 {d : Nat} {st : List zV} {h : zH} {l0 l1 l3 : Option zV} {x : Int32} : zX d tb_X1_firstFault 29 [l0, l1, some (.inl x), l3] st h = zX d tb_X1_firstFault 30 [l0, l1, some (.inl x), l3] (.inl x :: st) h := (zX_unf (o := (.iload_n 2, 1, 0, [])) rfl).trans rfl
theorem u_X1_firstFault_30 {d : Nat} {ls : zL} {st : List zV} {h : zH} : zX d tb_X1_firstFault 30 ls st h = zX d tb_X1_firstFault 32 ls (.inl 8 :: st) h := (zX_unf (o := (.bipush 8, 2, 0, [])) rfl).trans rfl
theorem u_X1_firstFault_32 {d : Nat} {ls : zL} {st : List zV} {h : zH} {x y : Int32} : zX d tb_X1_firstFault 32 ls (.inl y :: .inl x :: st) h = if x < y then zX d tb_X1_firstFault 49 ls st h else zX d tb_X1_firstFault 35 ls st h := ux_ic_lt rfl rfl
theorem u_X1_firstFault_35 {d : Nat} {st : List zV} {h : zH} {l0 l1 l3 : Option zV} {x : Int32} : zX d tb_X1_firstFault 35 [l0, l1, some (.inl x), l3] st h = zX d tb_X1_firstFault 36 [l0, l1, some (.inl x), l3] (.inl x :: st) h := (zX_unf (o := (.iload_n 2, 1, 0, [])) rfl).trans rfl
theorem u_X1_firstFault_36 {d : Nat} {ls : zL} {st : List zV} {h : zH} : zX d tb_X1_firstFault 36 ls st h = zX d tb_X1_firstFault 37 ls (.inl 2 :: st) h := (zX_unf (o := (.iconst 2, 1, 0, [])) rfl).trans rfl
theorem u_X1_firstFault_37 {d : Nat} {ls : zL} {st : List zV} {h : zH} {x y : Int32} : zX d tb_X1_firstFault 37 ls (.inl y :: .inl x :: st) h = zX d tb_X1_firstFault 38 ls (.inl (x - y) :: st) h := (zX_unf (o := (.isub, 1, 0, [])) rfl).trans rfl
theorem u_X1_firstFault_38 {d : Nat} {ls : zL} {st : List zV} {h : zH} : zX d tb_X1_firstFault 38 ls st h = zX d tb_X1_firstFault 40 ls (.inl 6 :: st) h := (zX_unf (o := (.bipush 6, 2, 0, [])) rfl).trans rfl
theorem u_X1_firstFault_40 {d : Nat} {ls : zL} {st : List zV} {h : zH} {x y : Int32} : zX d tb_X1_firstFault 40 ls (.inl y :: .inl x :: st) h = if y = 0 then none else zX d tb_X1_firstFault 41 ls (.inl (x - x / y * y) :: st) h := ux_rem rfl
theorem u_X1_firstFault_41 {d : Nat} {ls : zL} {st : List zV} {h : zH} {x : Int32} : zX d tb_X1_firstFault 41 ls (.inl x :: st) h = if x = 0 then zX d tb_X1_firstFault 44 ls st h else zX d tb_X1_firstFault 49 ls st h := ux_if_ne rfl rfl
theorem u_X1_firstFault_44 {d : Nat} {ls : zL} {st : List zV} {h : zH} : zX d tb_X1_firstFault 44 ls st h = zX d tb_X1_firstFault 46 ls (.inl (-9) :: st) h := (zX_unf (o := (.bipush (-9), 2, 0, [])) rfl).trans rfl
theorem u_X1_firstFault_46 {d : Nat} {ls : zL} {st : List zV} {h : zH} : zX d tb_X1_firstFault 46 ls st h = zX d tb_X1_firstFault 50 ls st h := (zX_unf (o := (.goto 4, 3, 0, [])) rfl).trans rfl
theorem u_X1_firstFault_49 {d : Nat} {st : List zV} {h : zH} {l0 l1 l3 : Option zV} {x : Int32} : zX d tb_X1_firstFault 49 [l0, l1, some (.inl x), l3] st h = zX d tb_X1_firstFault 50 [l0, l1, some (.inl x), l3] (.inl x :: st) h := (zX_unf (o := (.iload_n 2, 1, 0, [])) rfl).trans rfl
theorem u_X1_firstFault_50 {d : Nat} {ls : zL} {h : zH} {v : Int32} : zX d tb_X1_firstFault 50 ls [.inl v] h = some (some (.inl v), h) := (zX_unf (o := (.ireturn, 1, 0, [])) rfl).trans rfl
theorem e_X1_goesOn {d : Nat} {h : zH} {v0 : Int32} {v1 : Int32} : zcall (zP zM) (d + 1) 8 [.inl v0, .inl v1] h = zX d tb_X1_goesOn 0 [some (.inl v0), some (.inl v1)] [] h := (zcall_succ _ _ _ _ _).trans (if_pos (Nat.le_of_ble_eq_true rfl))
theorem u_X1_goesOn_0 {d : Nat} {st : List zV} {h : zH} {l1 : Option zV} {x : Int32} : zX d tb_X1_goesOn 0 [some (.inl x), l1] st h = zX d tb_X1_goesOn 1 [some (.inl x), l1] (.inl x :: st) h := (zX_unf (o := (.iload_n 0, 1, 0, [])) rfl).trans rfl
theorem u_X1_goesOn_1 {d : Nat} {ls : zL} {st : List zV} {h : zH} {x : Int32} : zX d tb_X1_goesOn 1 ls (.inl x :: st) h = if x = 0 then zX d tb_X1_goesOn 4 ls st h else zX d tb_X1_goesOn 16 ls st h := ux_if_ne rfl rfl
theorem u_X1_goesOn_4 {d : Nat} {st : List zV} {h : zH} {l0 : Option zV} {x : Int32} : zX d tb_X1_goesOn 4 [l0, some (.inl x)] st h = zX d tb_X1_goesOn 5 [l0, some (.inl x)] (.inl x :: st) h := (zX_unf (o := (.iload_n 1, 1, 0, [])) rfl).trans rfl
theorem u_X1_goesOn_5 {d : Nat} {ls : zL} {st : List zV} {h : zH} : zX d tb_X1_goesOn 5 ls st h = zX d tb_X1_goesOn 7 ls (.inl 114 :: st) h := (zX_unf (o := (.bipush 114, 2, 0, [])) rfl).trans rfl
theorem u_X1_goesOn_7 {d : Nat} {ls : zL} {st : List zV} {h : zH} {x y : Int32} : zX d tb_X1_goesOn 7 ls (.inl y :: .inl x :: st) h = if x = y then zX d tb_X1_goesOn 10 ls st h else zX d tb_X1_goesOn 14 ls st h := ux_ic_ne rfl rfl
theorem u_X1_goesOn_10 {d : Nat} {ls : zL} {st : List zV} {h : zH} : zX d tb_X1_goesOn 10 ls st h = zX d tb_X1_goesOn 11 ls (.inl 1 :: st) h := (zX_unf (o := (.iconst 1, 1, 0, [])) rfl).trans rfl
theorem u_X1_goesOn_11 {d : Nat} {ls : zL} {st : List zV} {h : zH} : zX d tb_X1_goesOn 11 ls st h = zX d tb_X1_goesOn 15 ls st h := (zX_unf (o := (.goto 4, 3, 0, [])) rfl).trans rfl
theorem u_X1_goesOn_14 {d : Nat} {ls : zL} {st : List zV} {h : zH} : zX d tb_X1_goesOn 14 ls st h = zX d tb_X1_goesOn 15 ls (.inl 0 :: st) h := (zX_unf (o := (.iconst 0, 1, 0, [])) rfl).trans rfl
theorem u_X1_goesOn_15 {d : Nat} {ls : zL} {h : zH} {v : Int32} : zX d tb_X1_goesOn 15 ls [.inl v] h = if v = 0 ∨ v = 1 then some (some (.inl v), h) else none := ux_zret rfl
theorem u_X1_goesOn_16 {d : Nat} {st : List zV} {h : zH} {l1 : Option zV} {x : Int32} : zX d tb_X1_goesOn 16 [some (.inl x), l1] st h = zX d tb_X1_goesOn 17 [some (.inl x), l1] (.inl x :: st) h := (zX_unf (o := (.iload_n 0, 1, 0, [])) rfl).trans rfl
theorem u_X1_goesOn_17 {d : Nat} {ls : zL} {st : List zV} {h : zH} : zX d tb_X1_goesOn 17 ls st h = zX d tb_X1_goesOn 18 ls (.inl 1 :: st) h := (zX_unf (o := (.iconst 1, 1, 0, [])) rfl).trans rfl
theorem u_X1_goesOn_18 {d : Nat} {ls : zL} {st : List zV} {h : zH} {x y : Int32} : zX d tb_X1_goesOn 18 ls (.inl y :: .inl x :: st) h = if x = y then zX d tb_X1_goesOn 21 ls st h else zX d tb_X1_goesOn 30 ls st h := ux_ic_ne rfl rfl
theorem u_X1_goesOn_21 {d : Nat} {st : List zV} {h : zH} {l0 : Option zV} {x : Int32} : zX d tb_X1_goesOn 21 [l0, some (.inl x)] st h = zX d tb_X1_goesOn 22 [l0, some (.inl x)] (.inl x :: st) h := (zX_unf (o := (.iload_n 1, 1, 0, [])) rfl).trans rfl
theorem u_X1_goesOn_22 {d : Nat} {ls : zL} {st : List zV} {h : zH} : zX d tb_X1_goesOn 22 ls st h = zX d tb_X1_goesOn 24 ls (.inl 49 :: st) h := (zX_unf (o := (.bipush 49, 2, 0, [])) rfl).trans rfl
theorem u_X1_goesOn_24 {d : Nat} {ls : zL} {st : List zV} {h : zH} : zX d tb_X1_goesOn 24 ls st h = zX d tb_X1_goesOn 26 ls (.inl 57 :: st) h := (zX_unf (o := (.bipush 57, 2, 0, [])) rfl).trans rfl
theorem u_X1_goesOn_26 {d : Nat} {ls : zL} {h : zH} {v0 : Int32} {v1 : Int32} {v2 : Int32} : zX d tb_X1_goesOn 26 ls [.inl v2, .inl v1, .inl v0] h = (zcall (zP zM) d 81 [.inl v0, .inl v1, .inl v2] h).bind fun q => zX d tb_X1_goesOn 29 ls (q.1.toList ++ []) q.2 := ux_callS (as := [.inl v0, .inl v1, .inl v2]) (r := []) rfl (n := 3) rfl rfl rfl rfl (Nat.le_of_ble_eq_true rfl)
theorem u_X1_goesOn_29 {d : Nat} {ls : zL} {h : zH} {v : Int32} : zX d tb_X1_goesOn 29 ls [.inl v] h = if v = 0 ∨ v = 1 then some (some (.inl v), h) else none := ux_zret rfl
theorem u_X1_goesOn_30 {d : Nat} {st : List zV} {h : zH} {l1 : Option zV} {x : Int32} : zX d tb_X1_goesOn 30 [some (.inl x), l1] st h = zX d tb_X1_goesOn 31 [some (.inl x), l1] (.inl x :: st) h := (zX_unf (o := (.iload_n 0, 1, 0, [])) rfl).trans rfl
theorem u_X1_goesOn_31 {d : Nat} {ls : zL} {st : List zV} {h : zH} : zX d tb_X1_goesOn 31 ls st h = zX d tb_X1_goesOn 33 ls (.inl 50 :: st) h := (zX_unf (o := (.bipush 50, 2, 0, [])) rfl).trans rfl
theorem u_X1_goesOn_33 {d : Nat} {ls : zL} {st : List zV} {h : zH} {x y : Int32} : zX d tb_X1_goesOn 33 ls (.inl y :: .inl x :: st) h = if x < y then zX d tb_X1_goesOn 38 ls st h else zX d tb_X1_goesOn 36 ls st h := ux_ic_lt rfl rfl
theorem u_X1_goesOn_36 {d : Nat} {ls : zL} {st : List zV} {h : zH} : zX d tb_X1_goesOn 36 ls st h = zX d tb_X1_goesOn 37 ls (.inl 0 :: st) h := (zX_unf (o := (.iconst 0, 1, 0, [])) rfl).trans rfl
theorem u_X1_goesOn_37 {d : Nat} {ls : zL} {h : zH} {v : Int32} : zX d tb_X1_goesOn 37 ls [.inl v] h = if v = 0 ∨ v = 1 then some (some (.inl v), h) else none := ux_zret rfl
theorem u_X1_goesOn_38 {d : Nat} {st : List zV} {h : zH} {l1 : Option zV} {x : Int32} : zX d tb_X1_goesOn 38 [some (.inl x), l1] st h = zX d tb_X1_goesOn 39 [some (.inl x), l1] (.inl x :: st) h := (zX_unf (o := (.iload_n 0, 1, 0, [])) rfl).trans rfl
theorem u_X1_goesOn_39 {d : Nat} {ls : zL} {st : List zV} {h : zH} : zX d tb_X1_goesOn 39 ls st h = zX d tb_X1_goesOn 40 ls (.inl 2 :: st) h := (zX_unf (o := (.iconst 2, 1, 0, [])) rfl).trans rfl
theorem u_X1_goesOn_40 {d : Nat} {ls : zL} {st : List zV} {h : zH} {x y : Int32} : zX d tb_X1_goesOn 40 ls (.inl y :: .inl x :: st) h = zX d tb_X1_goesOn 41 ls (.inl (x - y) :: st) h := (zX_unf (o := (.isub, 1, 0, [])) rfl).trans rfl
theorem u_X1_goesOn_41 {d : Nat} {ls : zL} {st : List zV} {h : zH} : zX d tb_X1_goesOn 41 ls st h = zX d tb_X1_goesOn 43 ls (.inl 6 :: st) h := (zX_unf (o := (.bipush 6, 2, 0, [])) rfl).trans rfl
theorem u_X1_goesOn_43 {d : Nat} {ls : zL} {st : List zV} {h : zH} {x y : Int32} : zX d tb_X1_goesOn 43 ls (.inl y :: .inl x :: st) h = if y = 0 then none else zX d tb_X1_goesOn 44 ls (.inl (x - x / y * y) :: st) h := ux_rem rfl
theorem u_X1_goesOn_44 {d : Nat} {ls : zL} {st : List zV} {h : zH} {x : Int32} : zX d tb_X1_goesOn 44 ls (.inl x :: st) h = if x = 0 then zX d tb_X1_goesOn 80 ls st h else if x = 1 then zX d tb_X1_goesOn 92 ls st h else if x = 5 then zX d tb_X1_goesOn 116 ls st h else zX d tb_X1_goesOn 125 ls st h := by
  by_cases q0 : x = 0
  · subst q0
    rw [zX_unf (o := (.lookupswitch 81 #[(0, 36), (1, 48), (5, 72)], 36, 0, [])) rfl]
    rfl
  by_cases q1 : x = 1
  · subst q1
    rw [zX_unf (o := (.lookupswitch 81 #[(0, 36), (1, 48), (5, 72)], 36, 0, [])) rfl]
    rfl
  by_cases q5 : x = 5
  · subst q5
    rw [zX_unf (o := (.lookupswitch 81 #[(0, 36), (1, 48), (5, 72)], 36, 0, [])) rfl]
    rfl
  rw [if_neg q0, if_neg q1, if_neg q5]
  have z0 : x.toInt ≠ 0 := fun z => q0 (Int32.toInt_inj.mp (by rw [z]; decide))
  have z1 : x.toInt ≠ 1 := fun z => q1 (Int32.toInt_inj.mp (by rw [z]; decide))
  have z5 : x.toInt ≠ 5 := fun z => q5 (Int32.toInt_inj.mp (by rw [z]; decide))
  rw [zX_unf (o := (.lookupswitch 81 #[(0, 36), (1, 48), (5, 72)], 36, 0, [])) rfl]
  simp only [zstp, zlook]
  rw [lv_osw q0 (by decide), lv_osw q1 (by decide), lv_osw q5 (by decide)]
  rfl
theorem u_X1_goesOn_80 {d : Nat} {st : List zV} {h : zH} {l0 : Option zV} {x : Int32} : zX d tb_X1_goesOn 80 [l0, some (.inl x)] st h = zX d tb_X1_goesOn 81 [l0, some (.inl x)] (.inl x :: st) h := (zX_unf (o := (.iload_n 1, 1, 0, [])) rfl).trans rfl
theorem u_X1_goesOn_81 {d : Nat} {ls : zL} {st : List zV} {h : zH} : zX d tb_X1_goesOn 81 ls st h = zX d tb_X1_goesOn 83 ls (.inl 59 :: st) h := (zX_unf (o := (.bipush 59, 2, 0, [])) rfl).trans rfl
theorem u_X1_goesOn_83 {d : Nat} {ls : zL} {st : List zV} {h : zH} {x y : Int32} : zX d tb_X1_goesOn 83 ls (.inl y :: .inl x :: st) h = if x = y then zX d tb_X1_goesOn 86 ls st h else zX d tb_X1_goesOn 90 ls st h := ux_ic_ne rfl rfl
theorem u_X1_goesOn_86 {d : Nat} {ls : zL} {st : List zV} {h : zH} : zX d tb_X1_goesOn 86 ls st h = zX d tb_X1_goesOn 87 ls (.inl 1 :: st) h := (zX_unf (o := (.iconst 1, 1, 0, [])) rfl).trans rfl
theorem u_X1_goesOn_87 {d : Nat} {ls : zL} {st : List zV} {h : zH} : zX d tb_X1_goesOn 87 ls st h = zX d tb_X1_goesOn 91 ls st h := (zX_unf (o := (.goto 4, 3, 0, [])) rfl).trans rfl
theorem u_X1_goesOn_90 {d : Nat} {ls : zL} {st : List zV} {h : zH} : zX d tb_X1_goesOn 90 ls st h = zX d tb_X1_goesOn 91 ls (.inl 0 :: st) h := (zX_unf (o := (.iconst 0, 1, 0, [])) rfl).trans rfl
theorem u_X1_goesOn_91 {d : Nat} {ls : zL} {h : zH} {v : Int32} : zX d tb_X1_goesOn 91 ls [.inl v] h = if v = 0 ∨ v = 1 then some (some (.inl v), h) else none := ux_zret rfl
theorem u_X1_goesOn_92 {d : Nat} {st : List zV} {h : zH} {l0 : Option zV} {x : Int32} : zX d tb_X1_goesOn 92 [l0, some (.inl x)] st h = zX d tb_X1_goesOn 93 [l0, some (.inl x)] (.inl x :: st) h := (zX_unf (o := (.iload_n 1, 1, 0, [])) rfl).trans rfl
theorem u_X1_goesOn_93 {d : Nat} {ls : zL} {st : List zV} {h : zH} : zX d tb_X1_goesOn 93 ls st h = zX d tb_X1_goesOn 95 ls (.inl 116 :: st) h := (zX_unf (o := (.bipush 116, 2, 0, [])) rfl).trans rfl
theorem u_X1_goesOn_95 {d : Nat} {ls : zL} {st : List zV} {h : zH} {x y : Int32} : zX d tb_X1_goesOn 95 ls (.inl y :: .inl x :: st) h = if x = y then zX d tb_X1_goesOn 110 ls st h else zX d tb_X1_goesOn 98 ls st h := ux_ic_eq rfl rfl
theorem u_X1_goesOn_98 {d : Nat} {st : List zV} {h : zH} {l0 : Option zV} {x : Int32} : zX d tb_X1_goesOn 98 [l0, some (.inl x)] st h = zX d tb_X1_goesOn 99 [l0, some (.inl x)] (.inl x :: st) h := (zX_unf (o := (.iload_n 1, 1, 0, [])) rfl).trans rfl
theorem u_X1_goesOn_99 {d : Nat} {ls : zL} {st : List zV} {h : zH} : zX d tb_X1_goesOn 99 ls st h = zX d tb_X1_goesOn 101 ls (.inl 100 :: st) h := (zX_unf (o := (.bipush 100, 2, 0, [])) rfl).trans rfl
theorem u_X1_goesOn_101 {d : Nat} {ls : zL} {st : List zV} {h : zH} {x y : Int32} : zX d tb_X1_goesOn 101 ls (.inl y :: .inl x :: st) h = if x = y then zX d tb_X1_goesOn 110 ls st h else zX d tb_X1_goesOn 104 ls st h := ux_ic_eq rfl rfl
theorem u_X1_goesOn_104 {d : Nat} {st : List zV} {h : zH} {l0 : Option zV} {x : Int32} : zX d tb_X1_goesOn 104 [l0, some (.inl x)] st h = zX d tb_X1_goesOn 105 [l0, some (.inl x)] (.inl x :: st) h := (zX_unf (o := (.iload_n 1, 1, 0, [])) rfl).trans rfl
theorem u_X1_goesOn_105 {d : Nat} {ls : zL} {st : List zV} {h : zH} : zX d tb_X1_goesOn 105 ls st h = zX d tb_X1_goesOn 107 ls (.inl 111 :: st) h := (zX_unf (o := (.bipush 111, 2, 0, [])) rfl).trans rfl
theorem u_X1_goesOn_107 {d : Nat} {ls : zL} {st : List zV} {h : zH} {x y : Int32} : zX d tb_X1_goesOn 107 ls (.inl y :: .inl x :: st) h = if x = y then zX d tb_X1_goesOn 110 ls st h else zX d tb_X1_goesOn 114 ls st h := ux_ic_ne rfl rfl
theorem u_X1_goesOn_110 {d : Nat} {ls : zL} {st : List zV} {h : zH} : zX d tb_X1_goesOn 110 ls st h = zX d tb_X1_goesOn 111 ls (.inl 1 :: st) h := (zX_unf (o := (.iconst 1, 1, 0, [])) rfl).trans rfl
theorem u_X1_goesOn_111 {d : Nat} {ls : zL} {st : List zV} {h : zH} : zX d tb_X1_goesOn 111 ls st h = zX d tb_X1_goesOn 115 ls st h := (zX_unf (o := (.goto 4, 3, 0, [])) rfl).trans rfl
theorem u_X1_goesOn_114 {d : Nat} {ls : zL} {st : List zV} {h : zH} : zX d tb_X1_goesOn 114 ls st h = zX d tb_X1_goesOn 115 ls (.inl 0 :: st) h := (zX_unf (o := (.iconst 0, 1, 0, [])) rfl).trans rfl
theorem u_X1_goesOn_115 {d : Nat} {ls : zL} {h : zH} {v : Int32} : zX d tb_X1_goesOn 115 ls [.inl v] h = if v = 0 ∨ v = 1 then some (some (.inl v), h) else none := ux_zret rfl
theorem u_X1_goesOn_116 {d : Nat} {st : List zV} {h : zH} {l0 : Option zV} {x : Int32} : zX d tb_X1_goesOn 116 [l0, some (.inl x)] st h = zX d tb_X1_goesOn 117 [l0, some (.inl x)] (.inl x :: st) h := (zX_unf (o := (.iload_n 1, 1, 0, [])) rfl).trans rfl
theorem u_X1_goesOn_117 {d : Nat} {ls : zL} {st : List zV} {h : zH} : zX d tb_X1_goesOn 117 ls st h = zX d tb_X1_goesOn 119 ls (.inl 48 :: st) h := (zX_unf (o := (.bipush 48, 2, 0, [])) rfl).trans rfl
theorem u_X1_goesOn_119 {d : Nat} {ls : zL} {st : List zV} {h : zH} : zX d tb_X1_goesOn 119 ls st h = zX d tb_X1_goesOn 121 ls (.inl 51 :: st) h := (zX_unf (o := (.bipush 51, 2, 0, [])) rfl).trans rfl
theorem u_X1_goesOn_121 {d : Nat} {ls : zL} {h : zH} {v0 : Int32} {v1 : Int32} {v2 : Int32} : zX d tb_X1_goesOn 121 ls [.inl v2, .inl v1, .inl v0] h = (zcall (zP zM) d 81 [.inl v0, .inl v1, .inl v2] h).bind fun q => zX d tb_X1_goesOn 124 ls (q.1.toList ++ []) q.2 := ux_callS (as := [.inl v0, .inl v1, .inl v2]) (r := []) rfl (n := 3) rfl rfl rfl rfl (Nat.le_of_ble_eq_true rfl)
theorem u_X1_goesOn_124 {d : Nat} {ls : zL} {h : zH} {v : Int32} : zX d tb_X1_goesOn 124 ls [.inl v] h = if v = 0 ∨ v = 1 then some (some (.inl v), h) else none := ux_zret rfl
theorem u_X1_goesOn_125 {d : Nat} {st : List zV} {h : zH} {l0 : Option zV} {x : Int32} : zX d tb_X1_goesOn 125 [l0, some (.inl x)] st h = zX d tb_X1_goesOn 126 [l0, some (.inl x)] (.inl x :: st) h := (zX_unf (o := (.iload_n 1, 1, 0, [])) rfl).trans rfl
theorem u_X1_goesOn_126 {d : Nat} {ls : zL} {st : List zV} {h : zH} : zX d tb_X1_goesOn 126 ls st h = zX d tb_X1_goesOn 128 ls (.inl 48 :: st) h := (zX_unf (o := (.bipush 48, 2, 0, [])) rfl).trans rfl
theorem u_X1_goesOn_128 {d : Nat} {ls : zL} {st : List zV} {h : zH} : zX d tb_X1_goesOn 128 ls st h = zX d tb_X1_goesOn 130 ls (.inl 55 :: st) h := (zX_unf (o := (.bipush 55, 2, 0, [])) rfl).trans rfl
theorem u_X1_goesOn_130 {d : Nat} {ls : zL} {h : zH} {v0 : Int32} {v1 : Int32} {v2 : Int32} : zX d tb_X1_goesOn 130 ls [.inl v2, .inl v1, .inl v0] h = (zcall (zP zM) d 81 [.inl v0, .inl v1, .inl v2] h).bind fun q => zX d tb_X1_goesOn 133 ls (q.1.toList ++ []) q.2 := ux_callS (as := [.inl v0, .inl v1, .inl v2]) (r := []) rfl (n := 3) rfl rfl rfl rfl (Nat.le_of_ble_eq_true rfl)
theorem u_X1_goesOn_133 {d : Nat} {ls : zL} {h : zH} {v : Int32} : zX d tb_X1_goesOn 133 ls [.inl v] h = if v = 0 ∨ v = 1 then some (some (.inl v), h) else none := ux_zret rfl
theorem e_X1_grow {d : Nat} {h : zH} {v0 : (Option Nat)} {v1 : Int32} {v2 : Int32} {a : Nat} : zcall (zP zM) (d + 1) 9 [.inr (.inr (some a)), .inr (.inr v0), .inl v1, .inl v2] h = zX d tb_X1_grow 0 [some (.inr (.inr (some a))), some (.inr (.inr v0)), some (.inl v1), some (.inl v2), none] [] h := (zcall_succ _ _ _ _ _).trans (if_pos (Nat.le_of_ble_eq_true rfl))
theorem u_X1_grow_0 {d : Nat} {st : List zV} {h : zH} {l1 l2 l3 l4 : Option zV} {x : (Option Nat)} : zX d tb_X1_grow 0 [some (.inr (.inr x)), l1, l2, l3, l4] st h = zX d tb_X1_grow 1 [some (.inr (.inr x)), l1, l2, l3, l4] (.inr (.inr x) :: st) h := (zX_unf (o := (.aload_n 0, 1, 0, [])) rfl).trans rfl
theorem u_X1_grow_1 {d : Nat} {st : List zV} {h : zH} {l0 l2 l3 l4 : Option zV} {x : (Option Nat)} : zX d tb_X1_grow 1 [l0, some (.inr (.inr x)), l2, l3, l4] st h = zX d tb_X1_grow 2 [l0, some (.inr (.inr x)), l2, l3, l4] (.inr (.inr x) :: st) h := (zX_unf (o := (.aload_n 1, 1, 0, [])) rfl).trans rfl
theorem u_X1_grow_2 {d : Nat} {st : List zV} {h : zH} {l0 l1 l3 l4 : Option zV} {x : Int32} : zX d tb_X1_grow 2 [l0, l1, some (.inl x), l3, l4] st h = zX d tb_X1_grow 3 [l0, l1, some (.inl x), l3, l4] (.inl x :: st) h := (zX_unf (o := (.iload_n 2, 1, 0, [])) rfl).trans rfl
theorem u_X1_grow_3 {d : Nat} {ls : zL} {st : List zV} {h : zH} : zX d tb_X1_grow 3 ls st h = zX d tb_X1_grow 4 ls (.inl 1 :: st) h := (zX_unf (o := (.iconst 1, 1, 0, [])) rfl).trans rfl
theorem u_X1_grow_4 {d : Nat} {ls : zL} {st : List zV} {h : zH} {x y : Int32} : zX d tb_X1_grow 4 ls (.inl y :: .inl x :: st) h = zX d tb_X1_grow 5 ls (.inl (x + y) :: st) h := (zX_unf (o := (.iadd, 1, 0, [])) rfl).trans rfl
theorem u_X1_grow_5 {d : Nat} {ls : zL} {h : zH} {a : Nat} {v0 : Int32} {r0 : zV} : zX d tb_X1_grow 5 ls [.inl v0, .inr (.inr (some a)), r0] h = if 7 = (zk h a).1 then (zcall (zP zM) d 39 [.inr (.inr (some a)), .inl v0] h).bind (fun q => zX d tb_X1_grow 8 ls (q.1.toList ++ [r0]) q.2) else none := (ux_callV (t := [(7, 39, 0, "", "")]) (as := [.inl v0]) (r := [r0]) rfl (n := 1) rfl rfl rfl (Nat.le_of_ble_eq_true rfl)).trans (zfb_1 _ _)
theorem u_X1_grow_8 {d : Nat} {ls : zL} {st : List zV} {h : zH} : zX d tb_X1_grow 8 ls st h = zX d tb_X1_grow 10 ls (.inl 48 :: st) h := (zX_unf (o := (.bipush 48, 2, 0, [])) rfl).trans rfl
theorem u_X1_grow_10 {d : Nat} {ls : zL} {st : List zV} {h : zH} {x y : Int32} : zX d tb_X1_grow 10 ls (.inl y :: .inl x :: st) h = zX d tb_X1_grow 11 ls (.inl (x - y) :: st) h := (zX_unf (o := (.isub, 1, 0, [])) rfl).trans rfl
theorem u_X1_grow_11 {d : Nat} {ls : zL} {st : List zV} {h : zH} {a : Nat} {v : Int32} : zX d tb_X1_grow 11 ls (.inl v :: .inr (.inr (some a)) :: st) h = if 1 = (zk h a).1 then zX d tb_X1_grow 14 ls st (zwI h a 0 v) else none := (ux_put (t := [(1, 0, 0, "", "")]) rfl).trans (zfb_1 _ _)
theorem u_X1_grow_14 {d : Nat} {st : List zV} {h : zH} {l1 l2 l3 l4 : Option zV} {x : (Option Nat)} : zX d tb_X1_grow 14 [some (.inr (.inr x)), l1, l2, l3, l4] st h = zX d tb_X1_grow 15 [some (.inr (.inr x)), l1, l2, l3, l4] (.inr (.inr x) :: st) h := (zX_unf (o := (.aload_n 0, 1, 0, [])) rfl).trans rfl
theorem u_X1_grow_15 {d : Nat} {st : List zV} {h : zH} {l0 l1 l2 l4 : Option zV} {x : Int32} : zX d tb_X1_grow 15 [l0, l1, l2, some (.inl x), l4] st h = zX d tb_X1_grow 16 [l0, l1, l2, some (.inl x), l4] (.inl x :: st) h := (zX_unf (o := (.iload_n 3, 1, 0, [])) rfl).trans rfl
theorem u_X1_grow_16 {d : Nat} {ls : zL} {st : List zV} {h : zH} : zX d tb_X1_grow 16 ls st h = zX d tb_X1_grow 17 ls (.inl 2 :: st) h := (zX_unf (o := (.iconst 2, 1, 0, [])) rfl).trans rfl
theorem u_X1_grow_17 {d : Nat} {ls : zL} {st : List zV} {h : zH} {x y : Int32} : zX d tb_X1_grow 17 ls (.inl y :: .inl x :: st) h = zX d tb_X1_grow 18 ls (.inl (x - y) :: st) h := (zX_unf (o := (.isub, 1, 0, [])) rfl).trans rfl
theorem u_X1_grow_18 {d : Nat} {ls : zL} {st : List zV} {h : zH} : zX d tb_X1_grow 18 ls st h = zX d tb_X1_grow 20 ls (.inl 6 :: st) h := (zX_unf (o := (.bipush 6, 2, 0, [])) rfl).trans rfl
theorem u_X1_grow_20 {d : Nat} {ls : zL} {st : List zV} {h : zH} {x y : Int32} : zX d tb_X1_grow 20 ls (.inl y :: .inl x :: st) h = if y = 0 then none else zX d tb_X1_grow 21 ls (.inl (x / y) :: st) h := ux_div rfl
theorem u_X1_grow_21 {d : Nat} {ls : zL} {st : List zV} {h : zH} : zX d tb_X1_grow 21 ls st h = zX d tb_X1_grow 23 ls (.inl 8 :: st) h := (zX_unf (o := (.bipush 8, 2, 0, [])) rfl).trans rfl
theorem u_X1_grow_23 {d : Nat} {ls : zL} {h : zH} {x y : Int32} {r0 : zV} : zX d tb_X1_grow 23 ls [.inl y, .inl x, r0] h = zX d tb_X1_grow 26 ls [.inl (if y < x then y else x), r0] h := (zX_unf (o := (.invokestatic 38, 3, (-4), [])) rfl).trans rfl
theorem u_X1_grow_26 {d : Nat} {ls : zL} {st : List zV} {h : zH} {a : Nat} {v : Int32} : zX d tb_X1_grow 26 ls (.inl v :: .inr (.inr (some a)) :: st) h = if 1 = (zk h a).1 then zX d tb_X1_grow 29 ls st (zwI h a 1 v) else none := (ux_put (t := [(1, 1, 0, "", "")]) rfl).trans (zfb_1 _ _)
theorem u_X1_grow_29 {d : Nat} {ls : zL} {st : List zV} {h : zH} : zX d tb_X1_grow 29 ls st h = zX d tb_X1_grow 30 ls (.inl 0 :: st) h := (zX_unf (o := (.iconst 0, 1, 0, [])) rfl).trans rfl
theorem u_X1_grow_30 {d : Nat} {st : List zV} {h : zH} {l0 l1 l2 l3 l4 : Option zV} {x : Int32} : zX d tb_X1_grow 30 [l0, l1, l2, l3, l4] (.inl x :: st) h = zX d tb_X1_grow 32 [l0, l1, l2, zcl l3, some (.inl x)] st h := (zX_unf (o := (.istore 4, 2, 0, [])) rfl).trans rfl
theorem u_X1_grow_32 {d : Nat} {st : List zV} {h : zH} {l0 l1 l2 l3 : Option zV} {x : Int32} : zX d tb_X1_grow 32 [l0, l1, l2, l3, some (.inl x)] st h = zX d tb_X1_grow 34 [l0, l1, l2, l3, some (.inl x)] (.inl x :: st) h := (zX_unf (o := (.iload 4, 2, 0, [])) rfl).trans rfl
theorem u_X1_grow_34 {d : Nat} {st : List zV} {h : zH} {l1 l2 l3 l4 : Option zV} {x : (Option Nat)} : zX d tb_X1_grow 34 [some (.inr (.inr x)), l1, l2, l3, l4] st h = zX d tb_X1_grow 35 [some (.inr (.inr x)), l1, l2, l3, l4] (.inr (.inr x) :: st) h := (zX_unf (o := (.aload_n 0, 1, 0, [])) rfl).trans rfl
theorem u_X1_grow_35 {d : Nat} {ls : zL} {st : List zV} {h : zH} {a : Nat} : zX d tb_X1_grow 35 ls (.inr (.inr (some a)) :: st) h = if 1 = (zk h a).1 then zX d tb_X1_grow 38 ls (.inl (zi h a 1) :: st) h else none := (ux_get (t := [(1, 1, 0, "", "")]) rfl (by decide)).trans (zfb_1 _ _)
theorem u_X1_grow_38 {d : Nat} {ls : zL} {st : List zV} {h : zH} {x y : Int32} : zX d tb_X1_grow 38 ls (.inl y :: .inl x :: st) h = if x < y then zX d tb_X1_grow 41 ls st h else zX d tb_X1_grow 69 ls st h := ux_ic_ge rfl rfl
theorem u_X1_grow_41 {d : Nat} {st : List zV} {h : zH} {l1 l2 l3 l4 : Option zV} {x : (Option Nat)} : zX d tb_X1_grow 41 [some (.inr (.inr x)), l1, l2, l3, l4] st h = zX d tb_X1_grow 42 [some (.inr (.inr x)), l1, l2, l3, l4] (.inr (.inr x) :: st) h := (zX_unf (o := (.aload_n 0, 1, 0, [])) rfl).trans rfl
theorem u_X1_grow_42 {d : Nat} {ls : zL} {st : List zV} {h : zH} {a : Nat} : zX d tb_X1_grow 42 ls (.inr (.inr (some a)) :: st) h = if 1 = (zk h a).1 then zX d tb_X1_grow 45 ls (.inr (.inr (zr h a 2)) :: st) h else none := (ux_getr (t := [(1, 2, 0, "", "")]) rfl).trans (zfb_1 _ _)
theorem u_X1_grow_45 {d : Nat} {st : List zV} {h : zH} {l0 l1 l2 l3 : Option zV} {x : Int32} : zX d tb_X1_grow 45 [l0, l1, l2, l3, some (.inl x)] st h = zX d tb_X1_grow 47 [l0, l1, l2, l3, some (.inl x)] (.inl x :: st) h := (zX_unf (o := (.iload 4, 2, 0, [])) rfl).trans rfl
theorem u_X1_grow_47 {d : Nat} {st : List zV} {h : zH} {l0 l1 l2 l3 : Option zV} {x : Int32} : zX d tb_X1_grow 47 [l0, l1, l2, l3, some (.inl x)] st h = zX d tb_X1_grow 49 [l0, l1, l2, l3, some (.inl x)] (.inl x :: st) h := (zX_unf (o := (.iload 4, 2, 0, [])) rfl).trans rfl
theorem u_X1_grow_49 {d : Nat} {st : List zV} {h : zH} {l0 l2 l3 l4 : Option zV} {x : (Option Nat)} : zX d tb_X1_grow 49 [l0, some (.inr (.inr x)), l2, l3, l4] st h = zX d tb_X1_grow 50 [l0, some (.inr (.inr x)), l2, l3, l4] (.inr (.inr x) :: st) h := (zX_unf (o := (.aload_n 1, 1, 0, [])) rfl).trans rfl
theorem u_X1_grow_50 {d : Nat} {st : List zV} {h : zH} {l0 l1 l3 l4 : Option zV} {x : Int32} : zX d tb_X1_grow 50 [l0, l1, some (.inl x), l3, l4] st h = zX d tb_X1_grow 51 [l0, l1, some (.inl x), l3, l4] (.inl x :: st) h := (zX_unf (o := (.iload_n 2, 1, 0, [])) rfl).trans rfl
theorem u_X1_grow_51 {d : Nat} {ls : zL} {st : List zV} {h : zH} : zX d tb_X1_grow 51 ls st h = zX d tb_X1_grow 52 ls (.inl 2 :: st) h := (zX_unf (o := (.iconst 2, 1, 0, [])) rfl).trans rfl
theorem u_X1_grow_52 {d : Nat} {ls : zL} {st : List zV} {h : zH} {x y : Int32} : zX d tb_X1_grow 52 ls (.inl y :: .inl x :: st) h = zX d tb_X1_grow 53 ls (.inl (x + y) :: st) h := (zX_unf (o := (.iadd, 1, 0, [])) rfl).trans rfl
theorem u_X1_grow_53 {d : Nat} {ls : zL} {st : List zV} {h : zH} : zX d tb_X1_grow 53 ls st h = zX d tb_X1_grow 55 ls (.inl 6 :: st) h := (zX_unf (o := (.bipush 6, 2, 0, [])) rfl).trans rfl
theorem u_X1_grow_55 {d : Nat} {st : List zV} {h : zH} {l0 l1 l2 l3 : Option zV} {x : Int32} : zX d tb_X1_grow 55 [l0, l1, l2, l3, some (.inl x)] st h = zX d tb_X1_grow 57 [l0, l1, l2, l3, some (.inl x)] (.inl x :: st) h := (zX_unf (o := (.iload 4, 2, 0, [])) rfl).trans rfl
theorem u_X1_grow_57 {d : Nat} {ls : zL} {st : List zV} {h : zH} {x y : Int32} : zX d tb_X1_grow 57 ls (.inl y :: .inl x :: st) h = zX d tb_X1_grow 58 ls (.inl (x * y) :: st) h := (zX_unf (o := (.imul, 1, 0, [])) rfl).trans rfl
theorem u_X1_grow_58 {d : Nat} {ls : zL} {st : List zV} {h : zH} {x y : Int32} : zX d tb_X1_grow 58 ls (.inl y :: .inl x :: st) h = zX d tb_X1_grow 59 ls (.inl (x + y) :: st) h := (zX_unf (o := (.iadd, 1, 0, [])) rfl).trans rfl
theorem u_X1_grow_59 {d : Nat} {ls : zL} {h : zH} {v0 : Int32} {v1 : (Option Nat)} {v2 : Int32} {r0 r1 : zV} : zX d tb_X1_grow 59 ls [.inl v2, .inr (.inr v1), .inl v0, r0, r1] h = (zcall (zP zM) d 10 [.inl v0, .inr (.inr v1), .inl v2] h).bind fun q => zX d tb_X1_grow 62 ls (q.1.toList ++ [r0, r1]) q.2 := ux_callS (as := [.inl v0, .inr (.inr v1), .inl v2]) (r := [r0, r1]) rfl (n := 3) rfl rfl rfl rfl (Nat.le_of_ble_eq_true rfl)
theorem u_X1_grow_62 {d : Nat} {ls : zL} {st : List zV} {h : zH} {a q : Nat} {i : Int32} : zX d tb_X1_grow 62 ls (.inr (.inr (some q)) :: .inl i :: .inr (.inr (some a)) :: st) h = if zfit (zk h a).1 (zk h q).1 = true then (zix i (zk h a).2).bind fun j => zX d tb_X1_grow 63 ls st (zwR h a j (some q)) else none := ux_aast rfl
theorem u_X1_grow_63 {d : Nat} {st : List zV} {h : zH} {l0 l1 l2 l3 : Option zV} {x : Int32} : zX d tb_X1_grow 63 [l0, l1, l2, l3, some (.inl x)] st h = zX d tb_X1_grow 66 [l0, l1, l2, zcl l3, some (.inl (x + 1))] st h := (zX_unf (o := (.iinc 4 1, 3, 0, [])) rfl).trans rfl
theorem u_X1_grow_66 {d : Nat} {ls : zL} {st : List zV} {h : zH} : zX d tb_X1_grow 66 ls st h = zX d tb_X1_grow 32 ls st h := (zX_unf (o := (.goto (-34), 3, 0, [])) rfl).trans rfl
theorem u_X1_grow_69 {d : Nat} {ls : zL} {h : zH} : zX d tb_X1_grow 69 ls [] h = some (none, h) := (zX_unf (o := (.return_, 1, 0, [])) rfl).trans rfl
theorem e_X1_newTale {d : Nat} {h : zH} {v0 : Int32} {v1 : (Option Nat)} {v2 : Int32} : zcall (zP zM) (d + 1) 10 [.inl v0, .inr (.inr v1), .inl v2] h = zX d tb_X1_newTale 0 [some (.inl v0), some (.inr (.inr v1)), some (.inl v2), none, none, none, none, none] [] h := (zcall_succ _ _ _ _ _).trans (if_pos (Nat.le_of_ble_eq_true rfl))
theorem u_X1_newTale_0 {d : Nat} {st : List zV} {h : zH} {l0 l2 l3 l4 l5 l6 l7 : Option zV} {x : (Option Nat)} : zX d tb_X1_newTale 0 [l0, some (.inr (.inr x)), l2, l3, l4, l5, l6, l7] st h = zX d tb_X1_newTale 1 [l0, some (.inr (.inr x)), l2, l3, l4, l5, l6, l7] (.inr (.inr x) :: st) h := (zX_unf (o := (.aload_n 1, 1, 0, [])) rfl).trans rfl
theorem u_X1_newTale_1 {d : Nat} {st : List zV} {h : zH} {l0 l1 l3 l4 l5 l6 l7 : Option zV} {x : Int32} : zX d tb_X1_newTale 1 [l0, l1, some (.inl x), l3, l4, l5, l6, l7] st h = zX d tb_X1_newTale 2 [l0, l1, some (.inl x), l3, l4, l5, l6, l7] (.inl x :: st) h := (zX_unf (o := (.iload_n 2, 1, 0, [])) rfl).trans rfl
theorem u_X1_newTale_2 {d : Nat} {ls : zL} {st : List zV} {h : zH} : zX d tb_X1_newTale 2 ls st h = zX d tb_X1_newTale 3 ls (.inl 1 :: st) h := (zX_unf (o := (.iconst 1, 1, 0, [])) rfl).trans rfl
theorem u_X1_newTale_3 {d : Nat} {ls : zL} {st : List zV} {h : zH} {x y : Int32} : zX d tb_X1_newTale 3 ls (.inl y :: .inl x :: st) h = zX d tb_X1_newTale 4 ls (.inl (x + y) :: st) h := (zX_unf (o := (.iadd, 1, 0, [])) rfl).trans rfl
theorem u_X1_newTale_4 {d : Nat} {ls : zL} {h : zH} {a : Nat} {v0 : Int32} : zX d tb_X1_newTale 4 ls [.inl v0, .inr (.inr (some a))] h = if 7 = (zk h a).1 then (zcall (zP zM) d 39 [.inr (.inr (some a)), .inl v0] h).bind (fun q => zX d tb_X1_newTale 7 ls (q.1.toList ++ []) q.2) else none := (ux_callV (t := [(7, 39, 0, "", "")]) (as := [.inl v0]) (r := []) rfl (n := 1) rfl rfl rfl (Nat.le_of_ble_eq_true rfl)).trans (zfb_1 _ _)
theorem u_X1_newTale_7 {d : Nat} {st : List zV} {h : zH} {l0 l1 l2 l3 l4 l5 l6 l7 : Option zV} {x : Int32} : zX d tb_X1_newTale 7 [l0, l1, l2, l3, l4, l5, l6, l7] (.inl x :: st) h = zX d tb_X1_newTale 8 [l0, l1, zcl l2, some (.inl x), l4, l5, l6, l7] st h := (zX_unf (o := (.istore_n 3, 1, 0, [])) rfl).trans rfl
theorem u_X1_newTale_8 {d : Nat} {st : List zV} {h : zH} {l0 l2 l3 l4 l5 l6 l7 : Option zV} {x : (Option Nat)} : zX d tb_X1_newTale 8 [l0, some (.inr (.inr x)), l2, l3, l4, l5, l6, l7] st h = zX d tb_X1_newTale 9 [l0, some (.inr (.inr x)), l2, l3, l4, l5, l6, l7] (.inr (.inr x) :: st) h := (zX_unf (o := (.aload_n 1, 1, 0, [])) rfl).trans rfl
theorem u_X1_newTale_9 {d : Nat} {st : List zV} {h : zH} {l0 l1 l3 l4 l5 l6 l7 : Option zV} {x : Int32} : zX d tb_X1_newTale 9 [l0, l1, some (.inl x), l3, l4, l5, l6, l7] st h = zX d tb_X1_newTale 10 [l0, l1, some (.inl x), l3, l4, l5, l6, l7] (.inl x :: st) h := (zX_unf (o := (.iload_n 2, 1, 0, [])) rfl).trans rfl
theorem u_X1_newTale_10 {d : Nat} {ls : zL} {st : List zV} {h : zH} : zX d tb_X1_newTale 10 ls st h = zX d tb_X1_newTale 11 ls (.inl 2 :: st) h := (zX_unf (o := (.iconst 2, 1, 0, [])) rfl).trans rfl
theorem u_X1_newTale_11 {d : Nat} {ls : zL} {st : List zV} {h : zH} {x y : Int32} : zX d tb_X1_newTale 11 ls (.inl y :: .inl x :: st) h = zX d tb_X1_newTale 12 ls (.inl (x + y) :: st) h := (zX_unf (o := (.iadd, 1, 0, [])) rfl).trans rfl
theorem u_X1_newTale_12 {d : Nat} {ls : zL} {h : zH} {a : Nat} {v0 : Int32} : zX d tb_X1_newTale 12 ls [.inl v0, .inr (.inr (some a))] h = if 7 = (zk h a).1 then (zcall (zP zM) d 39 [.inr (.inr (some a)), .inl v0] h).bind (fun q => zX d tb_X1_newTale 15 ls (q.1.toList ++ []) q.2) else none := (ux_callV (t := [(7, 39, 0, "", "")]) (as := [.inl v0]) (r := []) rfl (n := 1) rfl rfl rfl (Nat.le_of_ble_eq_true rfl)).trans (zfb_1 _ _)
theorem u_X1_newTale_15 {d : Nat} {ls : zL} {st : List zV} {h : zH} : zX d tb_X1_newTale 15 ls st h = zX d tb_X1_newTale 17 ls (.inl 48 :: st) h := (zX_unf (o := (.bipush 48, 2, 0, [])) rfl).trans rfl
theorem u_X1_newTale_17 {d : Nat} {ls : zL} {st : List zV} {h : zH} {x y : Int32} : zX d tb_X1_newTale 17 ls (.inl y :: .inl x :: st) h = zX d tb_X1_newTale 18 ls (.inl (x - y) :: st) h := (zX_unf (o := (.isub, 1, 0, [])) rfl).trans rfl
theorem u_X1_newTale_18 {d : Nat} {st : List zV} {h : zH} {l0 l1 l2 l3 l4 l5 l6 l7 : Option zV} {x : Int32} : zX d tb_X1_newTale 18 [l0, l1, l2, l3, l4, l5, l6, l7] (.inl x :: st) h = zX d tb_X1_newTale 20 [l0, l1, l2, zcl l3, some (.inl x), l5, l6, l7] st h := (zX_unf (o := (.istore 4, 2, 0, [])) rfl).trans rfl
theorem u_X1_newTale_20 {d : Nat} {st : List zV} {h : zH} {l0 l2 l3 l4 l5 l6 l7 : Option zV} {x : (Option Nat)} : zX d tb_X1_newTale 20 [l0, some (.inr (.inr x)), l2, l3, l4, l5, l6, l7] st h = zX d tb_X1_newTale 21 [l0, some (.inr (.inr x)), l2, l3, l4, l5, l6, l7] (.inr (.inr x) :: st) h := (zX_unf (o := (.aload_n 1, 1, 0, [])) rfl).trans rfl
theorem u_X1_newTale_21 {d : Nat} {st : List zV} {h : zH} {l0 l1 l3 l4 l5 l6 l7 : Option zV} {x : Int32} : zX d tb_X1_newTale 21 [l0, l1, some (.inl x), l3, l4, l5, l6, l7] st h = zX d tb_X1_newTale 22 [l0, l1, some (.inl x), l3, l4, l5, l6, l7] (.inl x :: st) h := (zX_unf (o := (.iload_n 2, 1, 0, [])) rfl).trans rfl
theorem u_X1_newTale_22 {d : Nat} {ls : zL} {st : List zV} {h : zH} : zX d tb_X1_newTale 22 ls st h = zX d tb_X1_newTale 23 ls (.inl 3 :: st) h := (zX_unf (o := (.iconst 3, 1, 0, [])) rfl).trans rfl
theorem u_X1_newTale_23 {d : Nat} {ls : zL} {st : List zV} {h : zH} {x y : Int32} : zX d tb_X1_newTale 23 ls (.inl y :: .inl x :: st) h = zX d tb_X1_newTale 24 ls (.inl (x + y) :: st) h := (zX_unf (o := (.iadd, 1, 0, [])) rfl).trans rfl
theorem u_X1_newTale_24 {d : Nat} {ls : zL} {h : zH} {a : Nat} {v0 : Int32} : zX d tb_X1_newTale 24 ls [.inl v0, .inr (.inr (some a))] h = if 7 = (zk h a).1 then (zcall (zP zM) d 39 [.inr (.inr (some a)), .inl v0] h).bind (fun q => zX d tb_X1_newTale 27 ls (q.1.toList ++ []) q.2) else none := (ux_callV (t := [(7, 39, 0, "", "")]) (as := [.inl v0]) (r := []) rfl (n := 1) rfl rfl rfl (Nat.le_of_ble_eq_true rfl)).trans (zfb_1 _ _)
theorem u_X1_newTale_27 {d : Nat} {ls : zL} {st : List zV} {h : zH} : zX d tb_X1_newTale 27 ls st h = zX d tb_X1_newTale 29 ls (.inl 48 :: st) h := (zX_unf (o := (.bipush 48, 2, 0, [])) rfl).trans rfl
theorem u_X1_newTale_29 {d : Nat} {ls : zL} {st : List zV} {h : zH} {x y : Int32} : zX d tb_X1_newTale 29 ls (.inl y :: .inl x :: st) h = zX d tb_X1_newTale 30 ls (.inl (x - y) :: st) h := (zX_unf (o := (.isub, 1, 0, [])) rfl).trans rfl
theorem u_X1_newTale_30 {d : Nat} {st : List zV} {h : zH} {l0 l1 l2 l3 l4 l5 l6 l7 : Option zV} {x : Int32} : zX d tb_X1_newTale 30 [l0, l1, l2, l3, l4, l5, l6, l7] (.inl x :: st) h = zX d tb_X1_newTale 32 [l0, l1, l2, l3, zcl l4, some (.inl x), l6, l7] st h := (zX_unf (o := (.istore 5, 2, 0, [])) rfl).trans rfl
theorem u_X1_newTale_32 {d : Nat} {st : List zV} {h : zH} {l0 l2 l3 l4 l5 l6 l7 : Option zV} {x : (Option Nat)} : zX d tb_X1_newTale 32 [l0, some (.inr (.inr x)), l2, l3, l4, l5, l6, l7] st h = zX d tb_X1_newTale 33 [l0, some (.inr (.inr x)), l2, l3, l4, l5, l6, l7] (.inr (.inr x) :: st) h := (zX_unf (o := (.aload_n 1, 1, 0, [])) rfl).trans rfl
theorem u_X1_newTale_33 {d : Nat} {st : List zV} {h : zH} {l0 l1 l3 l4 l5 l6 l7 : Option zV} {x : Int32} : zX d tb_X1_newTale 33 [l0, l1, some (.inl x), l3, l4, l5, l6, l7] st h = zX d tb_X1_newTale 34 [l0, l1, some (.inl x), l3, l4, l5, l6, l7] (.inl x :: st) h := (zX_unf (o := (.iload_n 2, 1, 0, [])) rfl).trans rfl
theorem u_X1_newTale_34 {d : Nat} {ls : zL} {st : List zV} {h : zH} : zX d tb_X1_newTale 34 ls st h = zX d tb_X1_newTale 35 ls (.inl 4 :: st) h := (zX_unf (o := (.iconst 4, 1, 0, [])) rfl).trans rfl
theorem u_X1_newTale_35 {d : Nat} {ls : zL} {st : List zV} {h : zH} {x y : Int32} : zX d tb_X1_newTale 35 ls (.inl y :: .inl x :: st) h = zX d tb_X1_newTale 36 ls (.inl (x + y) :: st) h := (zX_unf (o := (.iadd, 1, 0, [])) rfl).trans rfl
theorem u_X1_newTale_36 {d : Nat} {ls : zL} {h : zH} {a : Nat} {v0 : Int32} : zX d tb_X1_newTale 36 ls [.inl v0, .inr (.inr (some a))] h = if 7 = (zk h a).1 then (zcall (zP zM) d 39 [.inr (.inr (some a)), .inl v0] h).bind (fun q => zX d tb_X1_newTale 39 ls (q.1.toList ++ []) q.2) else none := (ux_callV (t := [(7, 39, 0, "", "")]) (as := [.inl v0]) (r := []) rfl (n := 1) rfl rfl rfl (Nat.le_of_ble_eq_true rfl)).trans (zfb_1 _ _)
theorem u_X1_newTale_39 {d : Nat} {ls : zL} {st : List zV} {h : zH} : zX d tb_X1_newTale 39 ls st h = zX d tb_X1_newTale 41 ls (.inl 48 :: st) h := (zX_unf (o := (.bipush 48, 2, 0, [])) rfl).trans rfl
theorem u_X1_newTale_41 {d : Nat} {ls : zL} {st : List zV} {h : zH} {x y : Int32} : zX d tb_X1_newTale 41 ls (.inl y :: .inl x :: st) h = zX d tb_X1_newTale 42 ls (.inl (x - y) :: st) h := (zX_unf (o := (.isub, 1, 0, [])) rfl).trans rfl
theorem u_X1_newTale_42 {d : Nat} {st : List zV} {h : zH} {l0 l1 l2 l3 l4 l5 l6 l7 : Option zV} {x : Int32} : zX d tb_X1_newTale 42 [l0, l1, l2, l3, l4, l5, l6, l7] (.inl x :: st) h = zX d tb_X1_newTale 44 [l0, l1, l2, l3, l4, zcl l5, some (.inl x), l7] st h := (zX_unf (o := (.istore 6, 2, 0, [])) rfl).trans rfl
theorem u_X1_newTale_44 {d : Nat} {st : List zV} {h : zH} {l0 l2 l3 l4 l5 l6 l7 : Option zV} {x : (Option Nat)} : zX d tb_X1_newTale 44 [l0, some (.inr (.inr x)), l2, l3, l4, l5, l6, l7] st h = zX d tb_X1_newTale 45 [l0, some (.inr (.inr x)), l2, l3, l4, l5, l6, l7] (.inr (.inr x) :: st) h := (zX_unf (o := (.aload_n 1, 1, 0, [])) rfl).trans rfl
theorem u_X1_newTale_45 {d : Nat} {st : List zV} {h : zH} {l0 l1 l3 l4 l5 l6 l7 : Option zV} {x : Int32} : zX d tb_X1_newTale 45 [l0, l1, some (.inl x), l3, l4, l5, l6, l7] st h = zX d tb_X1_newTale 46 [l0, l1, some (.inl x), l3, l4, l5, l6, l7] (.inl x :: st) h := (zX_unf (o := (.iload_n 2, 1, 0, [])) rfl).trans rfl
theorem u_X1_newTale_46 {d : Nat} {ls : zL} {st : List zV} {h : zH} : zX d tb_X1_newTale 46 ls st h = zX d tb_X1_newTale 47 ls (.inl 5 :: st) h := (zX_unf (o := (.iconst 5, 1, 0, [])) rfl).trans rfl
theorem u_X1_newTale_47 {d : Nat} {ls : zL} {st : List zV} {h : zH} {x y : Int32} : zX d tb_X1_newTale 47 ls (.inl y :: .inl x :: st) h = zX d tb_X1_newTale 48 ls (.inl (x + y) :: st) h := (zX_unf (o := (.iadd, 1, 0, [])) rfl).trans rfl
theorem u_X1_newTale_48 {d : Nat} {ls : zL} {h : zH} {a : Nat} {v0 : Int32} : zX d tb_X1_newTale 48 ls [.inl v0, .inr (.inr (some a))] h = if 7 = (zk h a).1 then (zcall (zP zM) d 39 [.inr (.inr (some a)), .inl v0] h).bind (fun q => zX d tb_X1_newTale 51 ls (q.1.toList ++ []) q.2) else none := (ux_callV (t := [(7, 39, 0, "", "")]) (as := [.inl v0]) (r := []) rfl (n := 1) rfl rfl rfl (Nat.le_of_ble_eq_true rfl)).trans (zfb_1 _ _)
theorem u_X1_newTale_51 {d : Nat} {ls : zL} {st : List zV} {h : zH} : zX d tb_X1_newTale 51 ls st h = zX d tb_X1_newTale 53 ls (.inl 48 :: st) h := (zX_unf (o := (.bipush 48, 2, 0, [])) rfl).trans rfl
theorem u_X1_newTale_53 {d : Nat} {ls : zL} {st : List zV} {h : zH} {x y : Int32} : zX d tb_X1_newTale 53 ls (.inl y :: .inl x :: st) h = zX d tb_X1_newTale 54 ls (.inl (x - y) :: st) h := (zX_unf (o := (.isub, 1, 0, [])) rfl).trans rfl
theorem u_X1_newTale_54 {d : Nat} {st : List zV} {h : zH} {l0 l1 l2 l3 l4 l5 l6 l7 : Option zV} {x : Int32} : zX d tb_X1_newTale 54 [l0, l1, l2, l3, l4, l5, l6, l7] (.inl x :: st) h = zX d tb_X1_newTale 56 [l0, l1, l2, l3, l4, l5, zcl l6, some (.inl x)] st h := (zX_unf (o := (.istore 7, 2, 0, [])) rfl).trans rfl
theorem u_X1_newTale_56 {d : Nat} {st : List zV} {h : zH} {l0 l1 l2 l4 l5 l6 l7 : Option zV} {x : Int32} : zX d tb_X1_newTale 56 [l0, l1, l2, some (.inl x), l4, l5, l6, l7] st h = zX d tb_X1_newTale 57 [l0, l1, l2, some (.inl x), l4, l5, l6, l7] (.inl x :: st) h := (zX_unf (o := (.iload_n 3, 1, 0, [])) rfl).trans rfl
theorem u_X1_newTale_57 {d : Nat} {ls : zL} {st : List zV} {h : zH} : zX d tb_X1_newTale 57 ls st h = zX d tb_X1_newTale 59 ls (.inl 111 :: st) h := (zX_unf (o := (.bipush 111, 2, 0, [])) rfl).trans rfl
theorem u_X1_newTale_59 {d : Nat} {ls : zL} {st : List zV} {h : zH} {x y : Int32} : zX d tb_X1_newTale 59 ls (.inl y :: .inl x :: st) h = if x = y then zX d tb_X1_newTale 62 ls st h else zX d tb_X1_newTale 79 ls st h := ux_ic_ne rfl rfl
theorem u_X1_newTale_62 {d : Nat} {ls : zL} {st : List zV} {h : zH} : zX d tb_X1_newTale 62 ls st h = zX d tb_X1_newTale 65 ls (.inr (.inr (some (zn h))) :: st) (zN h 5 0 5) := (zX_unf (o := (.new 48, 3, 0, [(5, 5, 0, "", "")])) rfl).trans rfl
theorem u_X1_newTale_65 {d : Nat} {ls : zL} {st : List zV} {h : zH} {x : (Option Nat)} : zX d tb_X1_newTale 65 ls (.inr (.inr x) :: st) h = zX d tb_X1_newTale 66 ls (.inr (.inr x) :: .inr (.inr x) :: st) h := (zX_unf (o := (.dup, 1, 0, [])) rfl).trans rfl
theorem u_X1_newTale_65i {d : Nat} {ls : zL} {st : List zV} {h : zH} {x : Int32} : zX d tb_X1_newTale 65 ls (.inl x :: st) h = zX d tb_X1_newTale 66 ls (.inl x :: .inl x :: st) h := (zX_unf (o := (.dup, 1, 0, [])) rfl).trans rfl
theorem u_X1_newTale_66 {d : Nat} {st : List zV} {h : zH} {l1 l2 l3 l4 l5 l6 l7 : Option zV} {x : Int32} : zX d tb_X1_newTale 66 [some (.inl x), l1, l2, l3, l4, l5, l6, l7] st h = zX d tb_X1_newTale 67 [some (.inl x), l1, l2, l3, l4, l5, l6, l7] (.inl x :: st) h := (zX_unf (o := (.iload_n 0, 1, 0, [])) rfl).trans rfl
theorem u_X1_newTale_67 {d : Nat} {st : List zV} {h : zH} {l0 l1 l2 l3 l5 l6 l7 : Option zV} {x : Int32} : zX d tb_X1_newTale 67 [l0, l1, l2, l3, some (.inl x), l5, l6, l7] st h = zX d tb_X1_newTale 69 [l0, l1, l2, l3, some (.inl x), l5, l6, l7] (.inl x :: st) h := (zX_unf (o := (.iload 4, 2, 0, [])) rfl).trans rfl
theorem u_X1_newTale_69 {d : Nat} {st : List zV} {h : zH} {l0 l1 l2 l3 l4 l6 l7 : Option zV} {x : Int32} : zX d tb_X1_newTale 69 [l0, l1, l2, l3, l4, some (.inl x), l6, l7] st h = zX d tb_X1_newTale 71 [l0, l1, l2, l3, l4, some (.inl x), l6, l7] (.inl x :: st) h := (zX_unf (o := (.iload 5, 2, 0, [])) rfl).trans rfl
theorem u_X1_newTale_71 {d : Nat} {st : List zV} {h : zH} {l0 l1 l2 l3 l4 l5 l7 : Option zV} {x : Int32} : zX d tb_X1_newTale 71 [l0, l1, l2, l3, l4, l5, some (.inl x), l7] st h = zX d tb_X1_newTale 73 [l0, l1, l2, l3, l4, l5, some (.inl x), l7] (.inl x :: st) h := (zX_unf (o := (.iload 6, 2, 0, [])) rfl).trans rfl
theorem u_X1_newTale_73 {d : Nat} {st : List zV} {h : zH} {l0 l1 l2 l3 l4 l5 l6 : Option zV} {x : Int32} : zX d tb_X1_newTale 73 [l0, l1, l2, l3, l4, l5, l6, some (.inl x)] st h = zX d tb_X1_newTale 75 [l0, l1, l2, l3, l4, l5, l6, some (.inl x)] (.inl x :: st) h := (zX_unf (o := (.iload 7, 2, 0, [])) rfl).trans rfl
theorem u_X1_newTale_75 {d : Nat} {ls : zL} {h : zH} {a : Nat} {v0 : Int32} {v1 : Int32} {v2 : Int32} {v3 : Int32} {v4 : Int32} {r0 : zV} : zX d tb_X1_newTale 75 ls [.inl v4, .inl v3, .inl v2, .inl v1, .inl v0, .inr (.inr (some a)), r0] h = if (zk h a).1 < 12 then (zcall (zP zM) d 24 [.inr (.inr (some a)), .inl v0, .inl v1, .inl v2, .inl v3, .inl v4] h).bind fun q => zX d tb_X1_newTale 78 ls (q.1.toList ++ [r0]) q.2 else none := ux_callI (as := [.inl v0, .inl v1, .inl v2, .inl v3, .inl v4]) (r := [r0]) rfl (n := 5) rfl rfl rfl rfl (Nat.le_of_ble_eq_true rfl)
theorem u_X1_newTale_78 {d : Nat} {ls : zL} {h : zH} {v : Option Nat} : zX d tb_X1_newTale 78 ls [.inr (.inr v)] h = some (some (.inr (.inr v)), h) := (zX_unf (o := (.areturn, 1, 0, [])) rfl).trans rfl
theorem u_X1_newTale_79 {d : Nat} {st : List zV} {h : zH} {l0 l1 l2 l4 l5 l6 l7 : Option zV} {x : Int32} : zX d tb_X1_newTale 79 [l0, l1, l2, some (.inl x), l4, l5, l6, l7] st h = zX d tb_X1_newTale 80 [l0, l1, l2, some (.inl x), l4, l5, l6, l7] (.inl x :: st) h := (zX_unf (o := (.iload_n 3, 1, 0, [])) rfl).trans rfl
theorem u_X1_newTale_80 {d : Nat} {ls : zL} {st : List zV} {h : zH} : zX d tb_X1_newTale 80 ls st h = zX d tb_X1_newTale 82 ls (.inl 100 :: st) h := (zX_unf (o := (.bipush 100, 2, 0, [])) rfl).trans rfl
theorem u_X1_newTale_82 {d : Nat} {ls : zL} {st : List zV} {h : zH} {x y : Int32} : zX d tb_X1_newTale 82 ls (.inl y :: .inl x :: st) h = if x = y then zX d tb_X1_newTale 85 ls st h else zX d tb_X1_newTale 102 ls st h := ux_ic_ne rfl rfl
theorem u_X1_newTale_85 {d : Nat} {ls : zL} {st : List zV} {h : zH} : zX d tb_X1_newTale 85 ls st h = zX d tb_X1_newTale 88 ls (.inr (.inr (some (zn h))) :: st) (zN h 0 0 5) := (zX_unf (o := (.new 53, 3, 0, [(0, 5, 0, "", "")])) rfl).trans rfl
theorem u_X1_newTale_88 {d : Nat} {ls : zL} {st : List zV} {h : zH} {x : (Option Nat)} : zX d tb_X1_newTale 88 ls (.inr (.inr x) :: st) h = zX d tb_X1_newTale 89 ls (.inr (.inr x) :: .inr (.inr x) :: st) h := (zX_unf (o := (.dup, 1, 0, [])) rfl).trans rfl
theorem u_X1_newTale_88i {d : Nat} {ls : zL} {st : List zV} {h : zH} {x : Int32} : zX d tb_X1_newTale 88 ls (.inl x :: st) h = zX d tb_X1_newTale 89 ls (.inl x :: .inl x :: st) h := (zX_unf (o := (.dup, 1, 0, [])) rfl).trans rfl
theorem u_X1_newTale_89 {d : Nat} {st : List zV} {h : zH} {l1 l2 l3 l4 l5 l6 l7 : Option zV} {x : Int32} : zX d tb_X1_newTale 89 [some (.inl x), l1, l2, l3, l4, l5, l6, l7] st h = zX d tb_X1_newTale 90 [some (.inl x), l1, l2, l3, l4, l5, l6, l7] (.inl x :: st) h := (zX_unf (o := (.iload_n 0, 1, 0, [])) rfl).trans rfl
theorem u_X1_newTale_90 {d : Nat} {st : List zV} {h : zH} {l0 l1 l2 l3 l5 l6 l7 : Option zV} {x : Int32} : zX d tb_X1_newTale 90 [l0, l1, l2, l3, some (.inl x), l5, l6, l7] st h = zX d tb_X1_newTale 92 [l0, l1, l2, l3, some (.inl x), l5, l6, l7] (.inl x :: st) h := (zX_unf (o := (.iload 4, 2, 0, [])) rfl).trans rfl
theorem u_X1_newTale_92 {d : Nat} {st : List zV} {h : zH} {l0 l1 l2 l3 l4 l6 l7 : Option zV} {x : Int32} : zX d tb_X1_newTale 92 [l0, l1, l2, l3, l4, some (.inl x), l6, l7] st h = zX d tb_X1_newTale 94 [l0, l1, l2, l3, l4, some (.inl x), l6, l7] (.inl x :: st) h := (zX_unf (o := (.iload 5, 2, 0, [])) rfl).trans rfl
theorem u_X1_newTale_94 {d : Nat} {st : List zV} {h : zH} {l0 l1 l2 l3 l4 l5 l7 : Option zV} {x : Int32} : zX d tb_X1_newTale 94 [l0, l1, l2, l3, l4, l5, some (.inl x), l7] st h = zX d tb_X1_newTale 96 [l0, l1, l2, l3, l4, l5, some (.inl x), l7] (.inl x :: st) h := (zX_unf (o := (.iload 6, 2, 0, [])) rfl).trans rfl
theorem u_X1_newTale_96 {d : Nat} {st : List zV} {h : zH} {l0 l1 l2 l3 l4 l5 l6 : Option zV} {x : Int32} : zX d tb_X1_newTale 96 [l0, l1, l2, l3, l4, l5, l6, some (.inl x)] st h = zX d tb_X1_newTale 98 [l0, l1, l2, l3, l4, l5, l6, some (.inl x)] (.inl x :: st) h := (zX_unf (o := (.iload 7, 2, 0, [])) rfl).trans rfl
theorem u_X1_newTale_98 {d : Nat} {ls : zL} {h : zH} {a : Nat} {v0 : Int32} {v1 : Int32} {v2 : Int32} {v3 : Int32} {v4 : Int32} {r0 : zV} : zX d tb_X1_newTale 98 ls [.inl v4, .inl v3, .inl v2, .inl v1, .inl v0, .inr (.inr (some a)), r0] h = if (zk h a).1 < 12 then (zcall (zP zM) d 0 [.inr (.inr (some a)), .inl v0, .inl v1, .inl v2, .inl v3, .inl v4] h).bind fun q => zX d tb_X1_newTale 101 ls (q.1.toList ++ [r0]) q.2 else none := ux_callI (as := [.inl v0, .inl v1, .inl v2, .inl v3, .inl v4]) (r := [r0]) rfl (n := 5) rfl rfl rfl rfl (Nat.le_of_ble_eq_true rfl)
theorem u_X1_newTale_101 {d : Nat} {ls : zL} {h : zH} {v : Option Nat} : zX d tb_X1_newTale 101 ls [.inr (.inr v)] h = some (some (.inr (.inr v)), h) := (zX_unf (o := (.areturn, 1, 0, [])) rfl).trans rfl
theorem u_X1_newTale_102 {d : Nat} {ls : zL} {st : List zV} {h : zH} : zX d tb_X1_newTale 102 ls st h = zX d tb_X1_newTale 105 ls (.inr (.inr (some (zn h))) :: st) (zN h 8 0 5) := (zX_unf (o := (.new 18, 3, 0, [(8, 5, 0, "", "")])) rfl).trans rfl
theorem u_X1_newTale_105 {d : Nat} {ls : zL} {st : List zV} {h : zH} {x : (Option Nat)} : zX d tb_X1_newTale 105 ls (.inr (.inr x) :: st) h = zX d tb_X1_newTale 106 ls (.inr (.inr x) :: .inr (.inr x) :: st) h := (zX_unf (o := (.dup, 1, 0, [])) rfl).trans rfl
theorem u_X1_newTale_105i {d : Nat} {ls : zL} {st : List zV} {h : zH} {x : Int32} : zX d tb_X1_newTale 105 ls (.inl x :: st) h = zX d tb_X1_newTale 106 ls (.inl x :: .inl x :: st) h := (zX_unf (o := (.dup, 1, 0, [])) rfl).trans rfl
theorem u_X1_newTale_106 {d : Nat} {st : List zV} {h : zH} {l1 l2 l3 l4 l5 l6 l7 : Option zV} {x : Int32} : zX d tb_X1_newTale 106 [some (.inl x), l1, l2, l3, l4, l5, l6, l7] st h = zX d tb_X1_newTale 107 [some (.inl x), l1, l2, l3, l4, l5, l6, l7] (.inl x :: st) h := (zX_unf (o := (.iload_n 0, 1, 0, [])) rfl).trans rfl
theorem u_X1_newTale_107 {d : Nat} {st : List zV} {h : zH} {l0 l1 l2 l3 l5 l6 l7 : Option zV} {x : Int32} : zX d tb_X1_newTale 107 [l0, l1, l2, l3, some (.inl x), l5, l6, l7] st h = zX d tb_X1_newTale 109 [l0, l1, l2, l3, some (.inl x), l5, l6, l7] (.inl x :: st) h := (zX_unf (o := (.iload 4, 2, 0, [])) rfl).trans rfl
theorem u_X1_newTale_109 {d : Nat} {st : List zV} {h : zH} {l0 l1 l2 l3 l4 l6 l7 : Option zV} {x : Int32} : zX d tb_X1_newTale 109 [l0, l1, l2, l3, l4, some (.inl x), l6, l7] st h = zX d tb_X1_newTale 111 [l0, l1, l2, l3, l4, some (.inl x), l6, l7] (.inl x :: st) h := (zX_unf (o := (.iload 5, 2, 0, [])) rfl).trans rfl
theorem u_X1_newTale_111 {d : Nat} {st : List zV} {h : zH} {l0 l1 l2 l3 l4 l5 l7 : Option zV} {x : Int32} : zX d tb_X1_newTale 111 [l0, l1, l2, l3, l4, l5, some (.inl x), l7] st h = zX d tb_X1_newTale 113 [l0, l1, l2, l3, l4, l5, some (.inl x), l7] (.inl x :: st) h := (zX_unf (o := (.iload 6, 2, 0, [])) rfl).trans rfl
theorem u_X1_newTale_113 {d : Nat} {st : List zV} {h : zH} {l0 l1 l2 l3 l4 l5 l6 : Option zV} {x : Int32} : zX d tb_X1_newTale 113 [l0, l1, l2, l3, l4, l5, l6, some (.inl x)] st h = zX d tb_X1_newTale 115 [l0, l1, l2, l3, l4, l5, l6, some (.inl x)] (.inl x :: st) h := (zX_unf (o := (.iload 7, 2, 0, [])) rfl).trans rfl
theorem u_X1_newTale_115 {d : Nat} {ls : zL} {h : zH} {a : Nat} {v0 : Int32} {v1 : Int32} {v2 : Int32} {v3 : Int32} {v4 : Int32} {r0 : zV} : zX d tb_X1_newTale 115 ls [.inl v4, .inl v3, .inl v2, .inl v1, .inl v0, .inr (.inr (some a)), r0] h = if (zk h a).1 < 12 then (zcall (zP zM) d 41 [.inr (.inr (some a)), .inl v0, .inl v1, .inl v2, .inl v3, .inl v4] h).bind fun q => zX d tb_X1_newTale 118 ls (q.1.toList ++ [r0]) q.2 else none := ux_callI (as := [.inl v0, .inl v1, .inl v2, .inl v3, .inl v4]) (r := [r0]) rfl (n := 5) rfl rfl rfl rfl (Nat.le_of_ble_eq_true rfl)
theorem u_X1_newTale_118 {d : Nat} {ls : zL} {h : zH} {v : Option Nat} : zX d tb_X1_newTale 118 ls [.inr (.inr v)] h = some (some (.inr (.inr v)), h) := (zX_unf (o := (.areturn, 1, 0, [])) rfl).trans rfl
theorem e_X2_init {d : Nat} {h : zH} {a : Nat} : zcall (zP zM) (d + 1) 11 [.inr (.inr (some a))] h = zX d tb_X2_init 0 [some (.inr (.inr (some a)))] [] h := (zcall_succ _ _ _ _ _).trans (if_pos (Nat.le_of_ble_eq_true rfl))
theorem u_X2_init_0 {d : Nat} {st : List zV} {h : zH} {x : (Option Nat)} : zX d tb_X2_init 0 [some (.inr (.inr x))] st h = zX d tb_X2_init 1 [some (.inr (.inr x))] (.inr (.inr x) :: st) h := (zX_unf (o := (.aload_n 0, 1, 0, [])) rfl).trans rfl
theorem u_X2_init_1 {d : Nat} {ls : zL} {h : zH} {a : Nat} : zX d tb_X2_init 1 ls [.inr (.inr (some a))] h = zX d tb_X2_init 4 ls [] h := (zX_unf (o := (.invokespecial 3, 3, (-1), [])) rfl).trans rfl
theorem u_X2_init_4 {d : Nat} {st : List zV} {h : zH} {x : (Option Nat)} : zX d tb_X2_init 4 [some (.inr (.inr x))] st h = zX d tb_X2_init 5 [some (.inr (.inr x))] (.inr (.inr x) :: st) h := (zX_unf (o := (.aload_n 0, 1, 0, [])) rfl).trans rfl
theorem u_X2_init_5 {d : Nat} {ls : zL} {st : List zV} {h : zH} : zX d tb_X2_init 5 ls st h = zX d tb_X2_init 6 ls (.inl 5 :: st) h := (zX_unf (o := (.iconst 5, 1, 0, [])) rfl).trans rfl
theorem u_X2_init_6 {d : Nat} {ls : zL} {h : zH} {v0 : Int32} {r0 : zV} : zX d tb_X2_init 6 ls [.inl v0, r0] h = (zcall (zP zM) d 84 [.inl v0] h).bind fun q => zX d tb_X2_init 9 ls (q.1.toList ++ [r0]) q.2 := ux_callS (as := [.inl v0]) (r := [r0]) rfl (n := 1) rfl rfl rfl rfl (Nat.le_of_ble_eq_true rfl)
theorem u_X2_init_9 {d : Nat} {ls : zL} {st : List zV} {h : zH} {a : Nat} {r : Option Nat} : zX d tb_X2_init 9 ls (.inr (.inr r) :: .inr (.inr (some a)) :: st) h = if 2 = (zk h a).1 then zX d tb_X2_init 12 ls st (zwR h a 0 r) else none := (ux_putr (t := [(2, 0, 0, "", "")]) rfl).trans (zfb_1 _ _)
theorem u_X2_init_12 {d : Nat} {st : List zV} {h : zH} {x : (Option Nat)} : zX d tb_X2_init 12 [some (.inr (.inr x))] st h = zX d tb_X2_init 13 [some (.inr (.inr x))] (.inr (.inr x) :: st) h := (zX_unf (o := (.aload_n 0, 1, 0, [])) rfl).trans rfl
theorem u_X2_init_13 {d : Nat} {ls : zL} {st : List zV} {h : zH} : zX d tb_X2_init 13 ls st h = zX d tb_X2_init 14 ls (.inl 0 :: st) h := (zX_unf (o := (.iconst 0, 1, 0, [])) rfl).trans rfl
theorem u_X2_init_14 {d : Nat} {ls : zL} {st : List zV} {h : zH} {a : Nat} {v : Int32} : zX d tb_X2_init 14 ls (.inl v :: .inr (.inr (some a)) :: st) h = if 2 = (zk h a).1 then zX d tb_X2_init 17 ls st (zwI h a 1 v) else none := (ux_put (t := [(2, 1, 0, "", "")]) rfl).trans (zfb_1 _ _)
theorem u_X2_init_17 {d : Nat} {ls : zL} {h : zH} : zX d tb_X2_init 17 ls [] h = some (none, h) := (zX_unf (o := (.return_, 1, 0, [])) rfl).trans rfl
theorem e_X2_farByBestPlay {d : Nat} {h : zH} {v0 : (Option Nat)} {v1 : (Option Nat)} {v2 : Int32} {a : Nat} : zcall (zP zM) (d + 1) 12 [.inr (.inr (some a)), .inr (.inr v0), .inr (.inr v1), .inl v2] h = zX d tb_X2_farByBestPlay 0 [some (.inr (.inr (some a))), some (.inr (.inr v0)), some (.inr (.inr v1)), some (.inl v2)] [] h := (zcall_succ _ _ _ _ _).trans (if_pos (Nat.le_of_ble_eq_true rfl))
theorem u_X2_farByBestPlay_0 {d : Nat} {st : List zV} {h : zH} {l1 l2 l3 : Option zV} {x : (Option Nat)} : zX d tb_X2_farByBestPlay 0 [some (.inr (.inr x)), l1, l2, l3] st h = zX d tb_X2_farByBestPlay 1 [some (.inr (.inr x)), l1, l2, l3] (.inr (.inr x) :: st) h := (zX_unf (o := (.aload_n 0, 1, 0, [])) rfl).trans rfl
theorem u_X2_farByBestPlay_1 {d : Nat} {st : List zV} {h : zH} {l0 l1 l2 : Option zV} {x : Int32} : zX d tb_X2_farByBestPlay 1 [l0, l1, l2, some (.inl x)] st h = zX d tb_X2_farByBestPlay 2 [l0, l1, l2, some (.inl x)] (.inl x :: st) h := (zX_unf (o := (.iload_n 3, 1, 0, [])) rfl).trans rfl
theorem u_X2_farByBestPlay_2 {d : Nat} {ls : zL} {st : List zV} {h : zH} : zX d tb_X2_farByBestPlay 2 ls st h = zX d tb_X2_farByBestPlay 3 ls (.inl 0 :: st) h := (zX_unf (o := (.iconst 0, 1, 0, [])) rfl).trans rfl
theorem u_X2_farByBestPlay_3 {d : Nat} {ls : zL} {h : zH} {x y : Int32} {r0 : zV} : zX d tb_X2_farByBestPlay 3 ls [.inl y, .inl x, r0] h = zX d tb_X2_farByBestPlay 6 ls [.inl (if x < y then y else x), r0] h := (zX_unf (o := (.invokestatic 23, 3, (-3), [])) rfl).trans rfl
theorem u_X2_farByBestPlay_6 {d : Nat} {ls : zL} {st : List zV} {h : zH} : zX d tb_X2_farByBestPlay 6 ls st h = zX d tb_X2_farByBestPlay 7 ls (.inl 4 :: st) h := (zX_unf (o := (.iconst 4, 1, 0, [])) rfl).trans rfl
theorem u_X2_farByBestPlay_7 {d : Nat} {ls : zL} {h : zH} {x y : Int32} {r0 : zV} : zX d tb_X2_farByBestPlay 7 ls [.inl y, .inl x, r0] h = zX d tb_X2_farByBestPlay 10 ls [.inl (if y < x then y else x), r0] h := (zX_unf (o := (.invokestatic 29, 3, (-4), [])) rfl).trans rfl
theorem u_X2_farByBestPlay_10 {d : Nat} {st : List zV} {h : zH} {l0 l2 l3 : Option zV} {x : (Option Nat)} : zX d tb_X2_farByBestPlay 10 [l0, some (.inr (.inr x)), l2, l3] st h = zX d tb_X2_farByBestPlay 11 [l0, some (.inr (.inr x)), l2, l3] (.inr (.inr x) :: st) h := (zX_unf (o := (.aload_n 1, 1, 0, [])) rfl).trans rfl
theorem u_X2_farByBestPlay_11 {d : Nat} {ls : zL} {st : List zV} {h : zH} {a : Nat} : zX d tb_X2_farByBestPlay 11 ls (.inr (.inr (some a)) :: st) h = if 1 = (zk h a).1 then zX d tb_X2_farByBestPlay 14 ls (.inl (zi h a 1) :: st) h else none := (ux_get (t := [(1, 1, 0, "", "")]) rfl (by decide)).trans (zfb_1 _ _)
theorem u_X2_farByBestPlay_14 {d : Nat} {ls : zL} {h : zH} {x y : Int32} {r0 : zV} : zX d tb_X2_farByBestPlay 14 ls [.inl y, .inl x, r0] h = zX d tb_X2_farByBestPlay 17 ls [.inl (if y < x then y else x), r0] h := (zX_unf (o := (.invokestatic 29, 3, (-4), [])) rfl).trans rfl
theorem u_X2_farByBestPlay_17 {d : Nat} {ls : zL} {st : List zV} {h : zH} {a : Nat} {v : Int32} : zX d tb_X2_farByBestPlay 17 ls (.inl v :: .inr (.inr (some a)) :: st) h = if 2 = (zk h a).1 then zX d tb_X2_farByBestPlay 20 ls st (zwI h a 1 v) else none := (ux_put (t := [(2, 1, 0, "", "")]) rfl).trans (zfb_1 _ _)
theorem u_X2_farByBestPlay_20 {d : Nat} {st : List zV} {h : zH} {l1 l2 l3 : Option zV} {x : (Option Nat)} : zX d tb_X2_farByBestPlay 20 [some (.inr (.inr x)), l1, l2, l3] st h = zX d tb_X2_farByBestPlay 21 [some (.inr (.inr x)), l1, l2, l3] (.inr (.inr x) :: st) h := (zX_unf (o := (.aload_n 0, 1, 0, [])) rfl).trans rfl
theorem u_X2_farByBestPlay_21 {d : Nat} {ls : zL} {st : List zV} {h : zH} {a : Nat} : zX d tb_X2_farByBestPlay 21 ls (.inr (.inr (some a)) :: st) h = if 2 = (zk h a).1 then zX d tb_X2_farByBestPlay 24 ls (.inr (.inr (zr h a 0)) :: st) h else none := (ux_getr (t := [(2, 0, 0, "", "")]) rfl).trans (zfb_1 _ _)
theorem u_X2_farByBestPlay_24 {d : Nat} {ls : zL} {st : List zV} {h : zH} : zX d tb_X2_farByBestPlay 24 ls st h = zX d tb_X2_farByBestPlay 25 ls (.inl 0 :: st) h := (zX_unf (o := (.iconst 0, 1, 0, [])) rfl).trans rfl
theorem u_X2_farByBestPlay_25 {d : Nat} {ls : zL} {st : List zV} {h : zH} {a : Nat} {i : Int32} : zX d tb_X2_farByBestPlay 25 ls (.inl i :: .inr (.inr (some a)) :: st) h = if 13 ≤ (zk h a).1 ∧ (zk h a).1 ≤ 15 then (zix i (zk h a).2).bind fun j => zX d tb_X2_farByBestPlay 26 ls (.inr (.inr (zr h a j)) :: st) h else none := ux_aald rfl
theorem u_X2_farByBestPlay_26 {d : Nat} {st : List zV} {h : zH} {l0 l1 l3 : Option zV} {x : (Option Nat)} : zX d tb_X2_farByBestPlay 26 [l0, l1, some (.inr (.inr x)), l3] st h = zX d tb_X2_farByBestPlay 27 [l0, l1, some (.inr (.inr x)), l3] (.inr (.inr x) :: st) h := (zX_unf (o := (.aload_n 2, 1, 0, [])) rfl).trans rfl
theorem u_X2_farByBestPlay_27 {d : Nat} {ls : zL} {h : zH} {a : Nat} {v0 : (Option Nat)} : zX d tb_X2_farByBestPlay 27 ls [.inr (.inr v0), .inr (.inr (some a))] h = if 4 = (zk h a).1 then (zcall (zP zM) d 20 [.inr (.inr (some a)), .inr (.inr v0)] h).bind (fun q => zX d tb_X2_farByBestPlay 30 ls (q.1.toList ++ []) q.2) else none := (ux_callV (t := [(4, 20, 0, "", "")]) (as := [.inr (.inr v0)]) (r := []) rfl (n := 1) rfl rfl rfl (Nat.le_of_ble_eq_true rfl)).trans (zfb_1 _ _)
theorem u_X2_farByBestPlay_30 {d : Nat} {st : List zV} {h : zH} {l1 l2 l3 : Option zV} {x : (Option Nat)} : zX d tb_X2_farByBestPlay 30 [some (.inr (.inr x)), l1, l2, l3] st h = zX d tb_X2_farByBestPlay 31 [some (.inr (.inr x)), l1, l2, l3] (.inr (.inr x) :: st) h := (zX_unf (o := (.aload_n 0, 1, 0, [])) rfl).trans rfl
theorem u_X2_farByBestPlay_31 {d : Nat} {st : List zV} {h : zH} {l0 l2 l3 : Option zV} {x : (Option Nat)} : zX d tb_X2_farByBestPlay 31 [l0, some (.inr (.inr x)), l2, l3] st h = zX d tb_X2_farByBestPlay 32 [l0, some (.inr (.inr x)), l2, l3] (.inr (.inr x) :: st) h := (zX_unf (o := (.aload_n 1, 1, 0, [])) rfl).trans rfl
theorem u_X2_farByBestPlay_32 {d : Nat} {ls : zL} {st : List zV} {h : zH} : zX d tb_X2_farByBestPlay 32 ls st h = zX d tb_X2_farByBestPlay 33 ls (.inl 0 :: st) h := (zX_unf (o := (.iconst 0, 1, 0, [])) rfl).trans rfl
theorem u_X2_farByBestPlay_33 {d : Nat} {ls : zL} {st : List zV} {h : zH} : zX d tb_X2_farByBestPlay 33 ls st h = zX d tb_X2_farByBestPlay 34 ls (.inl 0 :: st) h := (zX_unf (o := (.iconst 0, 1, 0, [])) rfl).trans rfl
theorem u_X2_farByBestPlay_34 {d : Nat} {ls : zL} {st : List zV} {h : zH} : zX d tb_X2_farByBestPlay 34 ls st h = zX d tb_X2_farByBestPlay 35 ls (.inl 0 :: st) h := (zX_unf (o := (.iconst 0, 1, 0, [])) rfl).trans rfl
theorem u_X2_farByBestPlay_35 {d : Nat} {ls : zL} {h : zH} {a : Nat} {v0 : (Option Nat)} {v1 : Int32} {v2 : Int32} {v3 : Int32} : zX d tb_X2_farByBestPlay 35 ls [.inl v3, .inl v2, .inl v1, .inr (.inr v0), .inr (.inr (some a))] h = if 2 = (zk h a).1 then (zcall (zP zM) d 13 [.inr (.inr (some a)), .inr (.inr v0), .inl v1, .inl v2, .inl v3] h).bind (fun q => zX d tb_X2_farByBestPlay 38 ls (q.1.toList ++ []) q.2) else none := (ux_callV (t := [(2, 13, 0, "", "")]) (as := [.inr (.inr v0), .inl v1, .inl v2, .inl v3]) (r := []) rfl (n := 4) rfl rfl rfl (Nat.le_of_ble_eq_true rfl)).trans (zfb_1 _ _)
theorem u_X2_farByBestPlay_38 {d : Nat} {ls : zL} {h : zH} {v : Int32} : zX d tb_X2_farByBestPlay 38 ls [.inl v] h = some (some (.inl v), h) := (zX_unf (o := (.ireturn, 1, 0, [])) rfl).trans rfl
theorem e_X2_leastFar {d : Nat} {h : zH} {v0 : (Option Nat)} {v1 : Int32} {v2 : Int32} {v3 : Int32} {a : Nat} : zcall (zP zM) (d + 1) 13 [.inr (.inr (some a)), .inr (.inr v0), .inl v1, .inl v2, .inl v3] h = zX d tb_X2_leastFar 0 [some (.inr (.inr (some a))), some (.inr (.inr v0)), some (.inl v1), some (.inl v2), some (.inl v3), none, none] [] h := (zcall_succ _ _ _ _ _).trans (if_pos (Nat.le_of_ble_eq_true rfl))
theorem u_X2_leastFar_0 {d : Nat} {st : List zV} {h : zH} {l0 l1 l3 l4 l5 l6 : Option zV} {x : Int32} : zX d tb_X2_leastFar 0 [l0, l1, some (.inl x), l3, l4, l5, l6] st h = zX d tb_X2_leastFar 1 [l0, l1, some (.inl x), l3, l4, l5, l6] (.inl x :: st) h := (zX_unf (o := (.iload_n 2, 1, 0, [])) rfl).trans rfl
theorem u_X2_leastFar_1 {d : Nat} {ls : zL} {st : List zV} {h : zH} {x : Int32} : zX d tb_X2_leastFar 1 ls (.inl x :: st) h = if x < 0 then zX d tb_X2_leastFar 12 ls st h else zX d tb_X2_leastFar 4 ls st h := ux_if_lt rfl rfl
theorem u_X2_leastFar_4 {d : Nat} {st : List zV} {h : zH} {l0 l1 l3 l4 l5 l6 : Option zV} {x : Int32} : zX d tb_X2_leastFar 4 [l0, l1, some (.inl x), l3, l4, l5, l6] st h = zX d tb_X2_leastFar 5 [l0, l1, some (.inl x), l3, l4, l5, l6] (.inl x :: st) h := (zX_unf (o := (.iload_n 2, 1, 0, [])) rfl).trans rfl
theorem u_X2_leastFar_5 {d : Nat} {st : List zV} {h : zH} {l1 l2 l3 l4 l5 l6 : Option zV} {x : (Option Nat)} : zX d tb_X2_leastFar 5 [some (.inr (.inr x)), l1, l2, l3, l4, l5, l6] st h = zX d tb_X2_leastFar 6 [some (.inr (.inr x)), l1, l2, l3, l4, l5, l6] (.inr (.inr x) :: st) h := (zX_unf (o := (.aload_n 0, 1, 0, [])) rfl).trans rfl
theorem u_X2_leastFar_6 {d : Nat} {ls : zL} {st : List zV} {h : zH} {a : Nat} : zX d tb_X2_leastFar 6 ls (.inr (.inr (some a)) :: st) h = if 2 = (zk h a).1 then zX d tb_X2_leastFar 9 ls (.inl (zi h a 1) :: st) h else none := (ux_get (t := [(2, 1, 0, "", "")]) rfl (by decide)).trans (zfb_1 _ _)
theorem u_X2_leastFar_9 {d : Nat} {ls : zL} {st : List zV} {h : zH} {x y : Int32} : zX d tb_X2_leastFar 9 ls (.inl y :: .inl x :: st) h = if x < y then zX d tb_X2_leastFar 25 ls st h else zX d tb_X2_leastFar 12 ls st h := ux_ic_lt rfl rfl
theorem u_X2_leastFar_12 {d : Nat} {st : List zV} {h : zH} {l1 l2 l3 l4 l5 l6 : Option zV} {x : (Option Nat)} : zX d tb_X2_leastFar 12 [some (.inr (.inr x)), l1, l2, l3, l4, l5, l6] st h = zX d tb_X2_leastFar 13 [some (.inr (.inr x)), l1, l2, l3, l4, l5, l6] (.inr (.inr x) :: st) h := (zX_unf (o := (.aload_n 0, 1, 0, [])) rfl).trans rfl
theorem u_X2_leastFar_13 {d : Nat} {ls : zL} {st : List zV} {h : zH} {a : Nat} : zX d tb_X2_leastFar 13 ls (.inr (.inr (some a)) :: st) h = if 2 = (zk h a).1 then zX d tb_X2_leastFar 16 ls (.inr (.inr (zr h a 0)) :: st) h else none := (ux_getr (t := [(2, 0, 0, "", "")]) rfl).trans (zfb_1 _ _)
theorem u_X2_leastFar_16 {d : Nat} {st : List zV} {h : zH} {l1 l2 l3 l4 l5 l6 : Option zV} {x : (Option Nat)} : zX d tb_X2_leastFar 16 [some (.inr (.inr x)), l1, l2, l3, l4, l5, l6] st h = zX d tb_X2_leastFar 17 [some (.inr (.inr x)), l1, l2, l3, l4, l5, l6] (.inr (.inr x) :: st) h := (zX_unf (o := (.aload_n 0, 1, 0, [])) rfl).trans rfl
theorem u_X2_leastFar_17 {d : Nat} {ls : zL} {st : List zV} {h : zH} {a : Nat} : zX d tb_X2_leastFar 17 ls (.inr (.inr (some a)) :: st) h = if 2 = (zk h a).1 then zX d tb_X2_leastFar 20 ls (.inl (zi h a 1) :: st) h else none := (ux_get (t := [(2, 1, 0, "", "")]) rfl (by decide)).trans (zfb_1 _ _)
theorem u_X2_leastFar_20 {d : Nat} {ls : zL} {st : List zV} {h : zH} {a : Nat} {i : Int32} : zX d tb_X2_leastFar 20 ls (.inl i :: .inr (.inr (some a)) :: st) h = if 13 ≤ (zk h a).1 ∧ (zk h a).1 ≤ 15 then (zix i (zk h a).2).bind fun j => zX d tb_X2_leastFar 21 ls (.inr (.inr (zr h a j)) :: st) h else none := ux_aald rfl
theorem u_X2_leastFar_21 {d : Nat} {ls : zL} {st : List zV} {h : zH} {a : Nat} : zX d tb_X2_leastFar 21 ls (.inr (.inr (some a)) :: st) h = if 4 = (zk h a).1 then zX d tb_X2_leastFar 24 ls (.inl (zi h a 0) :: st) h else none := (ux_get (t := [(4, 0, 0, "", "")]) rfl (by decide)).trans (zfb_1 _ _)
theorem u_X2_leastFar_24 {d : Nat} {ls : zL} {h : zH} {v : Int32} : zX d tb_X2_leastFar 24 ls [.inl v] h = some (some (.inl v), h) := (zX_unf (o := (.ireturn, 1, 0, [])) rfl).trans rfl
theorem u_X2_leastFar_25 {d : Nat} {st : List zV} {h : zH} {l0 l2 l3 l4 l5 l6 : Option zV} {x : (Option Nat)} : zX d tb_X2_leastFar 25 [l0, some (.inr (.inr x)), l2, l3, l4, l5, l6] st h = zX d tb_X2_leastFar 26 [l0, some (.inr (.inr x)), l2, l3, l4, l5, l6] (.inr (.inr x) :: st) h := (zX_unf (o := (.aload_n 1, 1, 0, [])) rfl).trans rfl
theorem u_X2_leastFar_26 {d : Nat} {ls : zL} {st : List zV} {h : zH} {a : Nat} : zX d tb_X2_leastFar 26 ls (.inr (.inr (some a)) :: st) h = if 1 = (zk h a).1 then zX d tb_X2_leastFar 29 ls (.inl (zi h a 0) :: st) h else none := (ux_get (t := [(1, 0, 0, "", "")]) rfl (by decide)).trans (zfb_1 _ _)
theorem u_X2_leastFar_29 {d : Nat} {st : List zV} {h : zH} {l0 l1 l2 l3 l4 l5 l6 : Option zV} {x : Int32} : zX d tb_X2_leastFar 29 [l0, l1, l2, l3, l4, l5, l6] (.inl x :: st) h = zX d tb_X2_leastFar 31 [l0, l1, l2, l3, zcl l4, some (.inl x), l6] st h := (zX_unf (o := (.istore 5, 2, 0, [])) rfl).trans rfl
theorem u_X2_leastFar_31 {d : Nat} {ls : zL} {st : List zV} {h : zH} : zX d tb_X2_leastFar 31 ls st h = zX d tb_X2_leastFar 32 ls (.inl 0 :: st) h := (zX_unf (o := (.iconst 0, 1, 0, [])) rfl).trans rfl
theorem u_X2_leastFar_32 {d : Nat} {st : List zV} {h : zH} {l0 l1 l2 l3 l4 l5 l6 : Option zV} {x : Int32} : zX d tb_X2_leastFar 32 [l0, l1, l2, l3, l4, l5, l6] (.inl x :: st) h = zX d tb_X2_leastFar 34 [l0, l1, l2, l3, l4, zcl l5, some (.inl x)] st h := (zX_unf (o := (.istore 6, 2, 0, [])) rfl).trans rfl
theorem u_X2_leastFar_34 {d : Nat} {st : List zV} {h : zH} {l0 l1 l2 l3 l4 l5 : Option zV} {x : Int32} : zX d tb_X2_leastFar 34 [l0, l1, l2, l3, l4, l5, some (.inl x)] st h = zX d tb_X2_leastFar 36 [l0, l1, l2, l3, l4, l5, some (.inl x)] (.inl x :: st) h := (zX_unf (o := (.iload 6, 2, 0, [])) rfl).trans rfl
theorem u_X2_leastFar_36 {d : Nat} {st : List zV} {h : zH} {l0 l2 l3 l4 l5 l6 : Option zV} {x : (Option Nat)} : zX d tb_X2_leastFar 36 [l0, some (.inr (.inr x)), l2, l3, l4, l5, l6] st h = zX d tb_X2_leastFar 37 [l0, some (.inr (.inr x)), l2, l3, l4, l5, l6] (.inr (.inr x) :: st) h := (zX_unf (o := (.aload_n 1, 1, 0, [])) rfl).trans rfl
theorem u_X2_leastFar_37 {d : Nat} {ls : zL} {st : List zV} {h : zH} {a : Nat} : zX d tb_X2_leastFar 37 ls (.inr (.inr (some a)) :: st) h = if 1 = (zk h a).1 then zX d tb_X2_leastFar 40 ls (.inl (zi h a 1) :: st) h else none := (ux_get (t := [(1, 1, 0, "", "")]) rfl (by decide)).trans (zfb_1 _ _)
theorem u_X2_leastFar_40 {d : Nat} {ls : zL} {st : List zV} {h : zH} {x y : Int32} : zX d tb_X2_leastFar 40 ls (.inl y :: .inl x :: st) h = if x < y then zX d tb_X2_leastFar 43 ls st h else zX d tb_X2_leastFar 89 ls st h := ux_ic_ge rfl rfl
theorem u_X2_leastFar_43 {d : Nat} {st : List zV} {h : zH} {l0 l1 l2 l4 l5 l6 : Option zV} {x : Int32} : zX d tb_X2_leastFar 43 [l0, l1, l2, some (.inl x), l4, l5, l6] st h = zX d tb_X2_leastFar 44 [l0, l1, l2, some (.inl x), l4, l5, l6] (.inl x :: st) h := (zX_unf (o := (.iload_n 3, 1, 0, [])) rfl).trans rfl
theorem u_X2_leastFar_44 {d : Nat} {st : List zV} {h : zH} {l0 l1 l2 l3 l4 l5 : Option zV} {x : Int32} : zX d tb_X2_leastFar 44 [l0, l1, l2, l3, l4, l5, some (.inl x)] st h = zX d tb_X2_leastFar 46 [l0, l1, l2, l3, l4, l5, some (.inl x)] (.inl x :: st) h := (zX_unf (o := (.iload 6, 2, 0, [])) rfl).trans rfl
theorem u_X2_leastFar_46 {d : Nat} {ls : zL} {h : zH} {v0 : Int32} {v1 : Int32} : zX d tb_X2_leastFar 46 ls [.inl v1, .inl v0] h = (zcall (zP zM) d 82 [.inl v0, .inl v1] h).bind fun q => zX d tb_X2_leastFar 49 ls (q.1.toList ++ []) q.2 := ux_callS (as := [.inl v0, .inl v1]) (r := []) rfl (n := 2) rfl rfl rfl rfl (Nat.le_of_ble_eq_true rfl)
theorem u_X2_leastFar_49 {d : Nat} {ls : zL} {st : List zV} {h : zH} {x : Int32} : zX d tb_X2_leastFar 49 ls (.inl x :: st) h = if x = 0 then zX d tb_X2_leastFar 55 ls st h else zX d tb_X2_leastFar 52 ls st h := ux_if_eq rfl rfl
theorem u_X2_leastFar_52 {d : Nat} {ls : zL} {st : List zV} {h : zH} : zX d tb_X2_leastFar 52 ls st h = zX d tb_X2_leastFar 83 ls st h := (zX_unf (o := (.goto 31, 3, 0, [])) rfl).trans rfl
theorem u_X2_leastFar_55 {d : Nat} {st : List zV} {h : zH} {l0 l1 l2 l3 l4 l6 : Option zV} {x : Int32} : zX d tb_X2_leastFar 55 [l0, l1, l2, l3, l4, some (.inl x), l6] st h = zX d tb_X2_leastFar 57 [l0, l1, l2, l3, l4, some (.inl x), l6] (.inl x :: st) h := (zX_unf (o := (.iload 5, 2, 0, [])) rfl).trans rfl
theorem u_X2_leastFar_57 {d : Nat} {st : List zV} {h : zH} {l1 l2 l3 l4 l5 l6 : Option zV} {x : (Option Nat)} : zX d tb_X2_leastFar 57 [some (.inr (.inr x)), l1, l2, l3, l4, l5, l6] st h = zX d tb_X2_leastFar 58 [some (.inr (.inr x)), l1, l2, l3, l4, l5, l6] (.inr (.inr x) :: st) h := (zX_unf (o := (.aload_n 0, 1, 0, [])) rfl).trans rfl
theorem u_X2_leastFar_58 {d : Nat} {st : List zV} {h : zH} {l0 l2 l3 l4 l5 l6 : Option zV} {x : (Option Nat)} : zX d tb_X2_leastFar 58 [l0, some (.inr (.inr x)), l2, l3, l4, l5, l6] st h = zX d tb_X2_leastFar 59 [l0, some (.inr (.inr x)), l2, l3, l4, l5, l6] (.inr (.inr x) :: st) h := (zX_unf (o := (.aload_n 1, 1, 0, [])) rfl).trans rfl
theorem u_X2_leastFar_59 {d : Nat} {st : List zV} {h : zH} {l0 l1 l3 l4 l5 l6 : Option zV} {x : Int32} : zX d tb_X2_leastFar 59 [l0, l1, some (.inl x), l3, l4, l5, l6] st h = zX d tb_X2_leastFar 60 [l0, l1, some (.inl x), l3, l4, l5, l6] (.inl x :: st) h := (zX_unf (o := (.iload_n 2, 1, 0, [])) rfl).trans rfl
theorem u_X2_leastFar_60 {d : Nat} {st : List zV} {h : zH} {l0 l1 l2 l4 l5 l6 : Option zV} {x : Int32} : zX d tb_X2_leastFar 60 [l0, l1, l2, some (.inl x), l4, l5, l6] st h = zX d tb_X2_leastFar 61 [l0, l1, l2, some (.inl x), l4, l5, l6] (.inl x :: st) h := (zX_unf (o := (.iload_n 3, 1, 0, [])) rfl).trans rfl
theorem u_X2_leastFar_61 {d : Nat} {st : List zV} {h : zH} {l0 l1 l2 l3 l4 l5 : Option zV} {x : Int32} : zX d tb_X2_leastFar 61 [l0, l1, l2, l3, l4, l5, some (.inl x)] st h = zX d tb_X2_leastFar 63 [l0, l1, l2, l3, l4, l5, some (.inl x)] (.inl x :: st) h := (zX_unf (o := (.iload 6, 2, 0, [])) rfl).trans rfl
theorem u_X2_leastFar_63 {d : Nat} {st : List zV} {h : zH} {l0 l1 l2 l3 l4 l6 : Option zV} {x : Int32} : zX d tb_X2_leastFar 63 [l0, l1, l2, l3, l4, some (.inl x), l6] st h = zX d tb_X2_leastFar 65 [l0, l1, l2, l3, l4, some (.inl x), l6] (.inl x :: st) h := (zX_unf (o := (.iload 5, 2, 0, [])) rfl).trans rfl
theorem u_X2_leastFar_65 {d : Nat} {ls : zL} {h : zH} {a : Nat} {v0 : (Option Nat)} {v1 : Int32} {v2 : Int32} {v3 : Int32} {v4 : Int32} {r0 : zV} : zX d tb_X2_leastFar 65 ls [.inl v4, .inl v3, .inl v2, .inl v1, .inr (.inr v0), .inr (.inr (some a)), r0] h = if 2 = (zk h a).1 then (zcall (zP zM) d 14 [.inr (.inr (some a)), .inr (.inr v0), .inl v1, .inl v2, .inl v3, .inl v4] h).bind (fun q => zX d tb_X2_leastFar 68 ls (q.1.toList ++ [r0]) q.2) else none := (ux_callV (t := [(2, 14, 0, "", "")]) (as := [.inr (.inr v0), .inl v1, .inl v2, .inl v3, .inl v4]) (r := [r0]) rfl (n := 5) rfl rfl rfl (Nat.le_of_ble_eq_true rfl)).trans (zfb_1 _ _)
theorem u_X2_leastFar_68 {d : Nat} {ls : zL} {h : zH} {x y : Int32} : zX d tb_X2_leastFar 68 ls [.inl y, .inl x] h = zX d tb_X2_leastFar 71 ls [.inl (if y < x then y else x)] h := (zX_unf (o := (.invokestatic 29, 3, (-4), [])) rfl).trans rfl
theorem u_X2_leastFar_71 {d : Nat} {st : List zV} {h : zH} {l0 l1 l2 l3 l4 l5 l6 : Option zV} {x : Int32} : zX d tb_X2_leastFar 71 [l0, l1, l2, l3, l4, l5, l6] (.inl x :: st) h = zX d tb_X2_leastFar 73 [l0, l1, l2, l3, zcl l4, some (.inl x), l6] st h := (zX_unf (o := (.istore 5, 2, 0, [])) rfl).trans rfl
theorem u_X2_leastFar_73 {d : Nat} {st : List zV} {h : zH} {l0 l1 l2 l3 l4 l6 : Option zV} {x : Int32} : zX d tb_X2_leastFar 73 [l0, l1, l2, l3, l4, some (.inl x), l6] st h = zX d tb_X2_leastFar 75 [l0, l1, l2, l3, l4, some (.inl x), l6] (.inl x :: st) h := (zX_unf (o := (.iload 5, 2, 0, [])) rfl).trans rfl
theorem u_X2_leastFar_75 {d : Nat} {st : List zV} {h : zH} {l0 l1 l2 l3 l5 l6 : Option zV} {x : Int32} : zX d tb_X2_leastFar 75 [l0, l1, l2, l3, some (.inl x), l5, l6] st h = zX d tb_X2_leastFar 77 [l0, l1, l2, l3, some (.inl x), l5, l6] (.inl x :: st) h := (zX_unf (o := (.iload 4, 2, 0, [])) rfl).trans rfl
theorem u_X2_leastFar_77 {d : Nat} {ls : zL} {st : List zV} {h : zH} {x y : Int32} : zX d tb_X2_leastFar 77 ls (.inl y :: .inl x :: st) h = if y < x then zX d tb_X2_leastFar 83 ls st h else zX d tb_X2_leastFar 80 ls st h := ux_ic_gt rfl rfl
theorem u_X2_leastFar_80 {d : Nat} {st : List zV} {h : zH} {l0 l1 l2 l3 l4 l6 : Option zV} {x : Int32} : zX d tb_X2_leastFar 80 [l0, l1, l2, l3, l4, some (.inl x), l6] st h = zX d tb_X2_leastFar 82 [l0, l1, l2, l3, l4, some (.inl x), l6] (.inl x :: st) h := (zX_unf (o := (.iload 5, 2, 0, [])) rfl).trans rfl
theorem u_X2_leastFar_82 {d : Nat} {ls : zL} {h : zH} {v : Int32} : zX d tb_X2_leastFar 82 ls [.inl v] h = some (some (.inl v), h) := (zX_unf (o := (.ireturn, 1, 0, [])) rfl).trans rfl
theorem u_X2_leastFar_83 {d : Nat} {st : List zV} {h : zH} {l0 l1 l2 l3 l4 l5 : Option zV} {x : Int32} : zX d tb_X2_leastFar 83 [l0, l1, l2, l3, l4, l5, some (.inl x)] st h = zX d tb_X2_leastFar 86 [l0, l1, l2, l3, l4, zcl l5, some (.inl (x + 1))] st h := (zX_unf (o := (.iinc 6 1, 3, 0, [])) rfl).trans rfl
theorem u_X2_leastFar_86 {d : Nat} {ls : zL} {st : List zV} {h : zH} : zX d tb_X2_leastFar 86 ls st h = zX d tb_X2_leastFar 34 ls st h := (zX_unf (o := (.goto (-52), 3, 0, [])) rfl).trans rfl
theorem u_X2_leastFar_89 {d : Nat} {st : List zV} {h : zH} {l0 l1 l2 l3 l4 l6 : Option zV} {x : Int32} : zX d tb_X2_leastFar 89 [l0, l1, l2, l3, l4, some (.inl x), l6] st h = zX d tb_X2_leastFar 91 [l0, l1, l2, l3, l4, some (.inl x), l6] (.inl x :: st) h := (zX_unf (o := (.iload 5, 2, 0, [])) rfl).trans rfl
theorem u_X2_leastFar_91 {d : Nat} {ls : zL} {h : zH} {v : Int32} : zX d tb_X2_leastFar 91 ls [.inl v] h = some (some (.inl v), h) := (zX_unf (o := (.ireturn, 1, 0, [])) rfl).trans rfl
theorem e_X2_mostFar {d : Nat} {h : zH} {v0 : (Option Nat)} {v1 : Int32} {v2 : Int32} {v3 : Int32} {v4 : Int32} {a : Nat} : zcall (zP zM) (d + 1) 14 [.inr (.inr (some a)), .inr (.inr v0), .inl v1, .inl v2, .inl v3, .inl v4] h = zX d tb_X2_mostFar 0 [some (.inr (.inr (some a))), some (.inr (.inr v0)), some (.inl v1), some (.inl v2), some (.inl v3), some (.inl v4), none, none, none] [] h := (zcall_succ _ _ _ _ _).trans (if_pos (Nat.le_of_ble_eq_true rfl))
theorem u_X2_mostFar_0 {d : Nat} {st : List zV} {h : zH} {l0 l2 l3 l4 l5 l6 l7 l8 : Option zV} {x : (Option Nat)} : zX d tb_X2_mostFar 0 [l0, some (.inr (.inr x)), l2, l3, l4, l5, l6, l7, l8] st h = zX d tb_X2_mostFar 1 [l0, some (.inr (.inr x)), l2, l3, l4, l5, l6, l7, l8] (.inr (.inr x) :: st) h := (zX_unf (o := (.aload_n 1, 1, 0, [])) rfl).trans rfl
theorem u_X2_mostFar_1 {d : Nat} {st : List zV} {h : zH} {l0 l1 l2 l3 l5 l6 l7 l8 : Option zV} {x : Int32} : zX d tb_X2_mostFar 1 [l0, l1, l2, l3, some (.inl x), l5, l6, l7, l8] st h = zX d tb_X2_mostFar 3 [l0, l1, l2, l3, some (.inl x), l5, l6, l7, l8] (.inl x :: st) h := (zX_unf (o := (.iload 4, 2, 0, [])) rfl).trans rfl
theorem u_X2_mostFar_3 {d : Nat} {ls : zL} {h : zH} {a : Nat} {v0 : Int32} : zX d tb_X2_mostFar 3 ls [.inl v0, .inr (.inr (some a))] h = if 1 = (zk h a).1 then (zcall (zP zM) d 6 [.inr (.inr (some a)), .inl v0] h).bind (fun q => zX d tb_X2_mostFar 6 ls (q.1.toList ++ []) q.2) else none := (ux_callV (t := [(1, 6, 0, "", "")]) (as := [.inl v0]) (r := []) rfl (n := 1) rfl rfl rfl (Nat.le_of_ble_eq_true rfl)).trans (zfb_1 _ _)
theorem u_X2_mostFar_6 {d : Nat} {st : List zV} {h : zH} {l0 l1 l2 l3 l4 l5 l6 l7 l8 : Option zV} {x : (Option Nat)} : zX d tb_X2_mostFar 6 [l0, l1, l2, l3, l4, l5, l6, l7, l8] (.inr (.inr x) :: st) h = zX d tb_X2_mostFar 8 [l0, l1, l2, l3, l4, zcl l5, some (.inr (.inr x)), l7, l8] st h := (zX_unf (o := (.astore 6, 2, 0, [])) rfl).trans rfl
theorem u_X2_mostFar_8 {d : Nat} {st : List zV} {h : zH} {l0 l1 l2 l3 l4 l5 l7 l8 : Option zV} {x : (Option Nat)} : zX d tb_X2_mostFar 8 [l0, l1, l2, l3, l4, l5, some (.inr (.inr x)), l7, l8] st h = zX d tb_X2_mostFar 10 [l0, l1, l2, l3, l4, l5, some (.inr (.inr x)), l7, l8] (.inr (.inr x) :: st) h := (zX_unf (o := (.aload 6, 2, 0, [])) rfl).trans rfl
theorem u_X2_mostFar_10 {d : Nat} {ls : zL} {st : List zV} {h : zH} {r : Option Nat} : zX d tb_X2_mostFar 10 ls (.inr (.inr r) :: st) h = if r = none then zX d tb_X2_mostFar 25 ls st h else zX d tb_X2_mostFar 13 ls st h := ux_null rfl rfl
theorem u_X2_mostFar_13 {d : Nat} {st : List zV} {h : zH} {l0 l1 l3 l4 l5 l6 l7 l8 : Option zV} {x : Int32} : zX d tb_X2_mostFar 13 [l0, l1, some (.inl x), l3, l4, l5, l6, l7, l8] st h = zX d tb_X2_mostFar 14 [l0, l1, some (.inl x), l3, l4, l5, l6, l7, l8] (.inl x :: st) h := (zX_unf (o := (.iload_n 2, 1, 0, [])) rfl).trans rfl
theorem u_X2_mostFar_14 {d : Nat} {ls : zL} {st : List zV} {h : zH} {x : Int32} : zX d tb_X2_mostFar 14 ls (.inl x :: st) h = if x < 0 then zX d tb_X2_mostFar 25 ls st h else zX d tb_X2_mostFar 17 ls st h := ux_if_lt rfl rfl
theorem u_X2_mostFar_17 {d : Nat} {st : List zV} {h : zH} {l0 l1 l3 l4 l5 l6 l7 l8 : Option zV} {x : Int32} : zX d tb_X2_mostFar 17 [l0, l1, some (.inl x), l3, l4, l5, l6, l7, l8] st h = zX d tb_X2_mostFar 18 [l0, l1, some (.inl x), l3, l4, l5, l6, l7, l8] (.inl x :: st) h := (zX_unf (o := (.iload_n 2, 1, 0, [])) rfl).trans rfl
theorem u_X2_mostFar_18 {d : Nat} {st : List zV} {h : zH} {l1 l2 l3 l4 l5 l6 l7 l8 : Option zV} {x : (Option Nat)} : zX d tb_X2_mostFar 18 [some (.inr (.inr x)), l1, l2, l3, l4, l5, l6, l7, l8] st h = zX d tb_X2_mostFar 19 [some (.inr (.inr x)), l1, l2, l3, l4, l5, l6, l7, l8] (.inr (.inr x) :: st) h := (zX_unf (o := (.aload_n 0, 1, 0, [])) rfl).trans rfl
theorem u_X2_mostFar_19 {d : Nat} {ls : zL} {st : List zV} {h : zH} {a : Nat} : zX d tb_X2_mostFar 19 ls (.inr (.inr (some a)) :: st) h = if 2 = (zk h a).1 then zX d tb_X2_mostFar 22 ls (.inl (zi h a 1) :: st) h else none := (ux_get (t := [(2, 1, 0, "", "")]) rfl (by decide)).trans (zfb_1 _ _)
theorem u_X2_mostFar_22 {d : Nat} {ls : zL} {st : List zV} {h : zH} {x y : Int32} : zX d tb_X2_mostFar 22 ls (.inl y :: .inl x :: st) h = if x < y then zX d tb_X2_mostFar 27 ls st h else zX d tb_X2_mostFar 25 ls st h := ux_ic_lt rfl rfl
theorem u_X2_mostFar_25 {d : Nat} {ls : zL} {st : List zV} {h : zH} : zX d tb_X2_mostFar 25 ls st h = zX d tb_X2_mostFar 26 ls (.inl 0 :: st) h := (zX_unf (o := (.iconst 0, 1, 0, [])) rfl).trans rfl
theorem u_X2_mostFar_26 {d : Nat} {ls : zL} {h : zH} {v : Int32} : zX d tb_X2_mostFar 26 ls [.inl v] h = some (some (.inl v), h) := (zX_unf (o := (.ireturn, 1, 0, [])) rfl).trans rfl
theorem u_X2_mostFar_27 {d : Nat} {st : List zV} {h : zH} {l1 l2 l3 l4 l5 l6 l7 l8 : Option zV} {x : (Option Nat)} : zX d tb_X2_mostFar 27 [some (.inr (.inr x)), l1, l2, l3, l4, l5, l6, l7, l8] st h = zX d tb_X2_mostFar 28 [some (.inr (.inr x)), l1, l2, l3, l4, l5, l6, l7, l8] (.inr (.inr x) :: st) h := (zX_unf (o := (.aload_n 0, 1, 0, [])) rfl).trans rfl
theorem u_X2_mostFar_28 {d : Nat} {ls : zL} {st : List zV} {h : zH} {a : Nat} : zX d tb_X2_mostFar 28 ls (.inr (.inr (some a)) :: st) h = if 2 = (zk h a).1 then zX d tb_X2_mostFar 31 ls (.inr (.inr (zr h a 0)) :: st) h else none := (ux_getr (t := [(2, 0, 0, "", "")]) rfl).trans (zfb_1 _ _)
theorem u_X2_mostFar_31 {d : Nat} {st : List zV} {h : zH} {l0 l1 l3 l4 l5 l6 l7 l8 : Option zV} {x : Int32} : zX d tb_X2_mostFar 31 [l0, l1, some (.inl x), l3, l4, l5, l6, l7, l8] st h = zX d tb_X2_mostFar 32 [l0, l1, some (.inl x), l3, l4, l5, l6, l7, l8] (.inl x :: st) h := (zX_unf (o := (.iload_n 2, 1, 0, [])) rfl).trans rfl
theorem u_X2_mostFar_32 {d : Nat} {ls : zL} {st : List zV} {h : zH} : zX d tb_X2_mostFar 32 ls st h = zX d tb_X2_mostFar 33 ls (.inl 1 :: st) h := (zX_unf (o := (.iconst 1, 1, 0, [])) rfl).trans rfl
theorem u_X2_mostFar_33 {d : Nat} {ls : zL} {st : List zV} {h : zH} {x y : Int32} : zX d tb_X2_mostFar 33 ls (.inl y :: .inl x :: st) h = zX d tb_X2_mostFar 34 ls (.inl (x + y) :: st) h := (zX_unf (o := (.iadd, 1, 0, [])) rfl).trans rfl
theorem u_X2_mostFar_34 {d : Nat} {ls : zL} {st : List zV} {h : zH} {a : Nat} {i : Int32} : zX d tb_X2_mostFar 34 ls (.inl i :: .inr (.inr (some a)) :: st) h = if 13 ≤ (zk h a).1 ∧ (zk h a).1 ≤ 15 then (zix i (zk h a).2).bind fun j => zX d tb_X2_mostFar 35 ls (.inr (.inr (zr h a j)) :: st) h else none := ux_aald rfl
theorem u_X2_mostFar_35 {d : Nat} {st : List zV} {h : zH} {l0 l1 l2 l3 l4 l5 l6 l7 l8 : Option zV} {x : (Option Nat)} : zX d tb_X2_mostFar 35 [l0, l1, l2, l3, l4, l5, l6, l7, l8] (.inr (.inr x) :: st) h = zX d tb_X2_mostFar 37 [l0, l1, l2, l3, l4, l5, zcl l6, some (.inr (.inr x)), l8] st h := (zX_unf (o := (.astore 7, 2, 0, [])) rfl).trans rfl
theorem u_X2_mostFar_37 {d : Nat} {st : List zV} {h : zH} {l0 l1 l2 l3 l4 l5 l6 l8 : Option zV} {x : (Option Nat)} : zX d tb_X2_mostFar 37 [l0, l1, l2, l3, l4, l5, l6, some (.inr (.inr x)), l8] st h = zX d tb_X2_mostFar 39 [l0, l1, l2, l3, l4, l5, l6, some (.inr (.inr x)), l8] (.inr (.inr x) :: st) h := (zX_unf (o := (.aload 7, 2, 0, [])) rfl).trans rfl
theorem u_X2_mostFar_39 {d : Nat} {st : List zV} {h : zH} {l1 l2 l3 l4 l5 l6 l7 l8 : Option zV} {x : (Option Nat)} : zX d tb_X2_mostFar 39 [some (.inr (.inr x)), l1, l2, l3, l4, l5, l6, l7, l8] st h = zX d tb_X2_mostFar 40 [some (.inr (.inr x)), l1, l2, l3, l4, l5, l6, l7, l8] (.inr (.inr x) :: st) h := (zX_unf (o := (.aload_n 0, 1, 0, [])) rfl).trans rfl
theorem u_X2_mostFar_40 {d : Nat} {ls : zL} {st : List zV} {h : zH} {a : Nat} : zX d tb_X2_mostFar 40 ls (.inr (.inr (some a)) :: st) h = if 2 = (zk h a).1 then zX d tb_X2_mostFar 43 ls (.inr (.inr (zr h a 0)) :: st) h else none := (ux_getr (t := [(2, 0, 0, "", "")]) rfl).trans (zfb_1 _ _)
theorem u_X2_mostFar_43 {d : Nat} {st : List zV} {h : zH} {l0 l1 l3 l4 l5 l6 l7 l8 : Option zV} {x : Int32} : zX d tb_X2_mostFar 43 [l0, l1, some (.inl x), l3, l4, l5, l6, l7, l8] st h = zX d tb_X2_mostFar 44 [l0, l1, some (.inl x), l3, l4, l5, l6, l7, l8] (.inl x :: st) h := (zX_unf (o := (.iload_n 2, 1, 0, [])) rfl).trans rfl
theorem u_X2_mostFar_44 {d : Nat} {ls : zL} {st : List zV} {h : zH} {a : Nat} {i : Int32} : zX d tb_X2_mostFar 44 ls (.inl i :: .inr (.inr (some a)) :: st) h = if 13 ≤ (zk h a).1 ∧ (zk h a).1 ≤ 15 then (zix i (zk h a).2).bind fun j => zX d tb_X2_mostFar 45 ls (.inr (.inr (zr h a j)) :: st) h else none := ux_aald rfl
theorem u_X2_mostFar_45 {d : Nat} {ls : zL} {h : zH} {a : Nat} {v0 : (Option Nat)} : zX d tb_X2_mostFar 45 ls [.inr (.inr v0), .inr (.inr (some a))] h = if 4 = (zk h a).1 then (zcall (zP zM) d 20 [.inr (.inr (some a)), .inr (.inr v0)] h).bind (fun q => zX d tb_X2_mostFar 48 ls (q.1.toList ++ []) q.2) else none := (ux_callV (t := [(4, 20, 0, "", "")]) (as := [.inr (.inr v0)]) (r := []) rfl (n := 1) rfl rfl rfl (Nat.le_of_ble_eq_true rfl)).trans (zfb_1 _ _)
theorem u_X2_mostFar_48 {d : Nat} {st : List zV} {h : zH} {l0 l1 l2 l3 l4 l5 l6 l8 : Option zV} {x : (Option Nat)} : zX d tb_X2_mostFar 48 [l0, l1, l2, l3, l4, l5, l6, some (.inr (.inr x)), l8] st h = zX d tb_X2_mostFar 50 [l0, l1, l2, l3, l4, l5, l6, some (.inr (.inr x)), l8] (.inr (.inr x) :: st) h := (zX_unf (o := (.aload 7, 2, 0, [])) rfl).trans rfl
theorem u_X2_mostFar_50 {d : Nat} {st : List zV} {h : zH} {l0 l1 l2 l3 l4 l5 l7 l8 : Option zV} {x : (Option Nat)} : zX d tb_X2_mostFar 50 [l0, l1, l2, l3, l4, l5, some (.inr (.inr x)), l7, l8] st h = zX d tb_X2_mostFar 52 [l0, l1, l2, l3, l4, l5, some (.inr (.inr x)), l7, l8] (.inr (.inr x) :: st) h := (zX_unf (o := (.aload 6, 2, 0, [])) rfl).trans rfl
theorem u_X2_mostFar_52 {d : Nat} {ls : zL} {st : List zV} {h : zH} : zX d tb_X2_mostFar 52 ls st h = zX d tb_X2_mostFar 53 ls (.inl 0 :: st) h := (zX_unf (o := (.iconst 0, 1, 0, [])) rfl).trans rfl
theorem u_X2_mostFar_53 {d : Nat} {ls : zL} {h : zH} {a : Nat} {v0 : (Option Nat)} {v1 : Int32} : zX d tb_X2_mostFar 53 ls [.inl v1, .inr (.inr v0), .inr (.inr (some a))] h = if 4 = (zk h a).1 then (zcall (zP zM) d 21 [.inr (.inr (some a)), .inr (.inr v0), .inl v1] h).bind (fun q => zX d tb_X2_mostFar 56 ls (q.1.toList ++ []) q.2) else none := (ux_callV (t := [(4, 21, 0, "", "")]) (as := [.inr (.inr v0), .inl v1]) (r := []) rfl (n := 2) rfl rfl rfl (Nat.le_of_ble_eq_true rfl)).trans (zfb_1 _ _)
theorem u_X2_mostFar_56 {d : Nat} {st : List zV} {h : zH} {l0 l1 l2 l3 l4 l5 l6 l8 : Option zV} {x : (Option Nat)} : zX d tb_X2_mostFar 56 [l0, l1, l2, l3, l4, l5, l6, some (.inr (.inr x)), l8] st h = zX d tb_X2_mostFar 58 [l0, l1, l2, l3, l4, l5, l6, some (.inr (.inr x)), l8] (.inr (.inr x) :: st) h := (zX_unf (o := (.aload 7, 2, 0, [])) rfl).trans rfl
theorem u_X2_mostFar_58 {d : Nat} {ls : zL} {st : List zV} {h : zH} {a : Nat} : zX d tb_X2_mostFar 58 ls (.inr (.inr (some a)) :: st) h = if 4 = (zk h a).1 then zX d tb_X2_mostFar 61 ls (.inl (zi h a 4) :: st) h else none := (ux_get (t := [(4, 4, 0, "", "")]) rfl (by decide)).trans (zfb_1 _ _)
theorem u_X2_mostFar_61 {d : Nat} {ls : zL} {st : List zV} {h : zH} {x : Int32} : zX d tb_X2_mostFar 61 ls (.inl x :: st) h = if x = 0 then zX d tb_X2_mostFar 70 ls st h else zX d tb_X2_mostFar 64 ls st h := ux_if_eq rfl rfl
theorem u_X2_mostFar_64 {d : Nat} {st : List zV} {h : zH} {l0 l1 l2 l3 l4 l5 l6 l8 : Option zV} {x : (Option Nat)} : zX d tb_X2_mostFar 64 [l0, l1, l2, l3, l4, l5, l6, some (.inr (.inr x)), l8] st h = zX d tb_X2_mostFar 66 [l0, l1, l2, l3, l4, l5, l6, some (.inr (.inr x)), l8] (.inr (.inr x) :: st) h := (zX_unf (o := (.aload 7, 2, 0, [])) rfl).trans rfl
theorem u_X2_mostFar_66 {d : Nat} {ls : zL} {st : List zV} {h : zH} {a : Nat} : zX d tb_X2_mostFar 66 ls (.inr (.inr (some a)) :: st) h = if 4 = (zk h a).1 then zX d tb_X2_mostFar 69 ls (.inl (zi h a 0) :: st) h else none := (ux_get (t := [(4, 0, 0, "", "")]) rfl (by decide)).trans (zfb_1 _ _)
theorem u_X2_mostFar_69 {d : Nat} {ls : zL} {h : zH} {v : Int32} : zX d tb_X2_mostFar 69 ls [.inl v] h = some (some (.inl v), h) := (zX_unf (o := (.ireturn, 1, 0, [])) rfl).trans rfl
theorem u_X2_mostFar_70 {d : Nat} {st : List zV} {h : zH} {l1 l2 l3 l4 l5 l6 l7 l8 : Option zV} {x : (Option Nat)} : zX d tb_X2_mostFar 70 [some (.inr (.inr x)), l1, l2, l3, l4, l5, l6, l7, l8] st h = zX d tb_X2_mostFar 71 [some (.inr (.inr x)), l1, l2, l3, l4, l5, l6, l7, l8] (.inr (.inr x) :: st) h := (zX_unf (o := (.aload_n 0, 1, 0, [])) rfl).trans rfl
theorem u_X2_mostFar_71 {d : Nat} {st : List zV} {h : zH} {l0 l2 l3 l4 l5 l6 l7 l8 : Option zV} {x : (Option Nat)} : zX d tb_X2_mostFar 71 [l0, some (.inr (.inr x)), l2, l3, l4, l5, l6, l7, l8] st h = zX d tb_X2_mostFar 72 [l0, some (.inr (.inr x)), l2, l3, l4, l5, l6, l7, l8] (.inr (.inr x) :: st) h := (zX_unf (o := (.aload_n 1, 1, 0, [])) rfl).trans rfl
theorem u_X2_mostFar_72 {d : Nat} {st : List zV} {h : zH} {l0 l1 l3 l4 l5 l6 l7 l8 : Option zV} {x : Int32} : zX d tb_X2_mostFar 72 [l0, l1, some (.inl x), l3, l4, l5, l6, l7, l8] st h = zX d tb_X2_mostFar 73 [l0, l1, some (.inl x), l3, l4, l5, l6, l7, l8] (.inl x :: st) h := (zX_unf (o := (.iload_n 2, 1, 0, [])) rfl).trans rfl
theorem u_X2_mostFar_73 {d : Nat} {ls : zL} {st : List zV} {h : zH} : zX d tb_X2_mostFar 73 ls st h = zX d tb_X2_mostFar 74 ls (.inl 1 :: st) h := (zX_unf (o := (.iconst 1, 1, 0, [])) rfl).trans rfl
theorem u_X2_mostFar_74 {d : Nat} {ls : zL} {st : List zV} {h : zH} {x y : Int32} : zX d tb_X2_mostFar 74 ls (.inl y :: .inl x :: st) h = zX d tb_X2_mostFar 75 ls (.inl (x + y) :: st) h := (zX_unf (o := (.iadd, 1, 0, [])) rfl).trans rfl
theorem u_X2_mostFar_75 {d : Nat} {st : List zV} {h : zH} {l0 l1 l2 l4 l5 l6 l7 l8 : Option zV} {x : Int32} : zX d tb_X2_mostFar 75 [l0, l1, l2, some (.inl x), l4, l5, l6, l7, l8] st h = zX d tb_X2_mostFar 76 [l0, l1, l2, some (.inl x), l4, l5, l6, l7, l8] (.inl x :: st) h := (zX_unf (o := (.iload_n 3, 1, 0, [])) rfl).trans rfl
theorem u_X2_mostFar_76 {d : Nat} {ls : zL} {st : List zV} {h : zH} : zX d tb_X2_mostFar 76 ls st h = zX d tb_X2_mostFar 77 ls (.inl 1 :: st) h := (zX_unf (o := (.iconst 1, 1, 0, [])) rfl).trans rfl
theorem u_X2_mostFar_77 {d : Nat} {st : List zV} {h : zH} {l0 l1 l2 l3 l5 l6 l7 l8 : Option zV} {x : Int32} : zX d tb_X2_mostFar 77 [l0, l1, l2, l3, some (.inl x), l5, l6, l7, l8] st h = zX d tb_X2_mostFar 79 [l0, l1, l2, l3, some (.inl x), l5, l6, l7, l8] (.inl x :: st) h := (zX_unf (o := (.iload 4, 2, 0, [])) rfl).trans rfl
theorem u_X2_mostFar_79 {d : Nat} {ls : zL} {st : List zV} {h : zH} {x y : Int32} : zX d tb_X2_mostFar 79 ls (.inl y :: .inl x :: st) h = zX d tb_X2_mostFar 80 ls (.inl (x <<< (y &&& 31)) :: st) h := (zX_unf (o := (.ishl, 1, 0, [])) rfl).trans rfl
theorem u_X2_mostFar_80 {d : Nat} {ls : zL} {st : List zV} {h : zH} {x y : Int32} : zX d tb_X2_mostFar 80 ls (.inl y :: .inl x :: st) h = zX d tb_X2_mostFar 81 ls (.inl (x ||| y) :: st) h := (zX_unf (o := (.ior, 1, 0, [])) rfl).trans rfl
theorem u_X2_mostFar_81 {d : Nat} {ls : zL} {st : List zV} {h : zH} : zX d tb_X2_mostFar 81 ls st h = zX d tb_X2_mostFar 82 ls (.inl 0 :: st) h := (zX_unf (o := (.iconst 0, 1, 0, [])) rfl).trans rfl
theorem u_X2_mostFar_82 {d : Nat} {ls : zL} {h : zH} {a : Nat} {v0 : (Option Nat)} {v1 : Int32} {v2 : Int32} {v3 : Int32} : zX d tb_X2_mostFar 82 ls [.inl v3, .inl v2, .inl v1, .inr (.inr v0), .inr (.inr (some a))] h = if 2 = (zk h a).1 then (zcall (zP zM) d 13 [.inr (.inr (some a)), .inr (.inr v0), .inl v1, .inl v2, .inl v3] h).bind (fun q => zX d tb_X2_mostFar 85 ls (q.1.toList ++ []) q.2) else none := (ux_callV (t := [(2, 13, 0, "", "")]) (as := [.inr (.inr v0), .inl v1, .inl v2, .inl v3]) (r := []) rfl (n := 4) rfl rfl rfl (Nat.le_of_ble_eq_true rfl)).trans (zfb_1 _ _)
theorem u_X2_mostFar_85 {d : Nat} {st : List zV} {h : zH} {l0 l1 l2 l3 l4 l5 l6 l7 l8 : Option zV} {x : Int32} : zX d tb_X2_mostFar 85 [l0, l1, l2, l3, l4, l5, l6, l7, l8] (.inl x :: st) h = zX d tb_X2_mostFar 87 [l0, l1, l2, l3, l4, l5, l6, zcl l7, some (.inl x)] st h := (zX_unf (o := (.istore 8, 2, 0, [])) rfl).trans rfl
theorem u_X2_mostFar_87 {d : Nat} {st : List zV} {h : zH} {l0 l1 l2 l3 l4 l5 l6 l7 : Option zV} {x : Int32} : zX d tb_X2_mostFar 87 [l0, l1, l2, l3, l4, l5, l6, l7, some (.inl x)] st h = zX d tb_X2_mostFar 89 [l0, l1, l2, l3, l4, l5, l6, l7, some (.inl x)] (.inl x :: st) h := (zX_unf (o := (.iload 8, 2, 0, [])) rfl).trans rfl
theorem u_X2_mostFar_89 {d : Nat} {st : List zV} {h : zH} {l0 l1 l2 l3 l4 l6 l7 l8 : Option zV} {x : Int32} : zX d tb_X2_mostFar 89 [l0, l1, l2, l3, l4, some (.inl x), l6, l7, l8] st h = zX d tb_X2_mostFar 91 [l0, l1, l2, l3, l4, some (.inl x), l6, l7, l8] (.inl x :: st) h := (zX_unf (o := (.iload 5, 2, 0, [])) rfl).trans rfl
theorem u_X2_mostFar_91 {d : Nat} {ls : zL} {st : List zV} {h : zH} {x y : Int32} : zX d tb_X2_mostFar 91 ls (.inl y :: .inl x :: st) h = if x < y then zX d tb_X2_mostFar 94 ls st h else zX d tb_X2_mostFar 110 ls st h := ux_ic_ge rfl rfl
theorem u_X2_mostFar_94 {d : Nat} {st : List zV} {h : zH} {l0 l1 l2 l3 l4 l5 l6 l8 : Option zV} {x : (Option Nat)} : zX d tb_X2_mostFar 94 [l0, l1, l2, l3, l4, l5, l6, some (.inr (.inr x)), l8] st h = zX d tb_X2_mostFar 96 [l0, l1, l2, l3, l4, l5, l6, some (.inr (.inr x)), l8] (.inr (.inr x) :: st) h := (zX_unf (o := (.aload 7, 2, 0, [])) rfl).trans rfl
theorem u_X2_mostFar_96 {d : Nat} {ls : zL} {st : List zV} {h : zH} {a : Nat} : zX d tb_X2_mostFar 96 ls (.inr (.inr (some a)) :: st) h = if 4 = (zk h a).1 then zX d tb_X2_mostFar 99 ls (.inl (zi h a 3) :: st) h else none := (ux_get (t := [(4, 3, 0, "", "")]) rfl (by decide)).trans (zfb_1 _ _)
theorem u_X2_mostFar_99 {d : Nat} {st : List zV} {h : zH} {l0 l1 l2 l3 l4 l5 l7 l8 : Option zV} {x : (Option Nat)} : zX d tb_X2_mostFar 99 [l0, l1, l2, l3, l4, l5, some (.inr (.inr x)), l7, l8] st h = zX d tb_X2_mostFar 101 [l0, l1, l2, l3, l4, l5, some (.inr (.inr x)), l7, l8] (.inr (.inr x) :: st) h := (zX_unf (o := (.aload 6, 2, 0, [])) rfl).trans rfl
theorem u_X2_mostFar_101 {d : Nat} {ls : zL} {st : List zV} {h : zH} {a : Nat} : zX d tb_X2_mostFar 101 ls (.inr (.inr (some a)) :: st) h = if 0 = (zk h a).1 then zX d tb_X2_mostFar 104 ls (.inl (zi h a 3) :: st) h else if 5 = (zk h a).1 then zX d tb_X2_mostFar 104 ls (.inl (zi h a 3) :: st) h else if 8 = (zk h a).1 then zX d tb_X2_mostFar 104 ls (.inl (zi h a 3) :: st) h else none := (ux_get (t := [(0, 3, 0, "", ""), (5, 3, 0, "", ""), (8, 3, 0, "", "")]) rfl (by decide)).trans (zfb_3 _ _)
theorem u_X2_mostFar_104 {d : Nat} {ls : zL} {h : zH} {v0 : Int32} {v1 : Int32} : zX d tb_X2_mostFar 104 ls [.inl v1, .inl v0] h = (zcall (zP zM) d 82 [.inl v0, .inl v1] h).bind fun q => zX d tb_X2_mostFar 107 ls (q.1.toList ++ []) q.2 := ux_callS (as := [.inl v0, .inl v1]) (r := []) rfl (n := 2) rfl rfl rfl rfl (Nat.le_of_ble_eq_true rfl)
theorem u_X2_mostFar_107 {d : Nat} {ls : zL} {st : List zV} {h : zH} {x : Int32} : zX d tb_X2_mostFar 107 ls (.inl x :: st) h = if x = 0 then zX d tb_X2_mostFar 113 ls st h else zX d tb_X2_mostFar 110 ls st h := ux_if_eq rfl rfl
theorem u_X2_mostFar_110 {d : Nat} {st : List zV} {h : zH} {l0 l1 l2 l3 l4 l5 l6 l7 : Option zV} {x : Int32} : zX d tb_X2_mostFar 110 [l0, l1, l2, l3, l4, l5, l6, l7, some (.inl x)] st h = zX d tb_X2_mostFar 112 [l0, l1, l2, l3, l4, l5, l6, l7, some (.inl x)] (.inl x :: st) h := (zX_unf (o := (.iload 8, 2, 0, [])) rfl).trans rfl
theorem u_X2_mostFar_112 {d : Nat} {ls : zL} {h : zH} {v : Int32} : zX d tb_X2_mostFar 112 ls [.inl v] h = some (some (.inl v), h) := (zX_unf (o := (.ireturn, 1, 0, [])) rfl).trans rfl
theorem u_X2_mostFar_113 {d : Nat} {st : List zV} {h : zH} {l0 l1 l2 l3 l4 l5 l6 l8 : Option zV} {x : (Option Nat)} : zX d tb_X2_mostFar 113 [l0, l1, l2, l3, l4, l5, l6, some (.inr (.inr x)), l8] st h = zX d tb_X2_mostFar 115 [l0, l1, l2, l3, l4, l5, l6, some (.inr (.inr x)), l8] (.inr (.inr x) :: st) h := (zX_unf (o := (.aload 7, 2, 0, [])) rfl).trans rfl
theorem u_X2_mostFar_115 {d : Nat} {st : List zV} {h : zH} {l0 l1 l2 l3 l4 l5 l7 l8 : Option zV} {x : (Option Nat)} : zX d tb_X2_mostFar 115 [l0, l1, l2, l3, l4, l5, some (.inr (.inr x)), l7, l8] st h = zX d tb_X2_mostFar 117 [l0, l1, l2, l3, l4, l5, some (.inr (.inr x)), l7, l8] (.inr (.inr x) :: st) h := (zX_unf (o := (.aload 6, 2, 0, [])) rfl).trans rfl
theorem u_X2_mostFar_117 {d : Nat} {ls : zL} {h : zH} {a : Nat} {v0 : (Option Nat)} : zX d tb_X2_mostFar 117 ls [.inr (.inr v0), .inr (.inr (some a))] h = if 4 = (zk h a).1 then (zcall (zP zM) d 22 [.inr (.inr (some a)), .inr (.inr v0)] h).bind (fun q => zX d tb_X2_mostFar 120 ls (q.1.toList ++ []) q.2) else none := (ux_callV (t := [(4, 22, 0, "", "")]) (as := [.inr (.inr v0)]) (r := []) rfl (n := 1) rfl rfl rfl (Nat.le_of_ble_eq_true rfl)).trans (zfb_1 _ _)
theorem u_X2_mostFar_120 {d : Nat} {st : List zV} {h : zH} {l0 l1 l2 l3 l4 l5 l6 l7 : Option zV} {x : Int32} : zX d tb_X2_mostFar 120 [l0, l1, l2, l3, l4, l5, l6, l7, some (.inl x)] st h = zX d tb_X2_mostFar 122 [l0, l1, l2, l3, l4, l5, l6, l7, some (.inl x)] (.inl x :: st) h := (zX_unf (o := (.iload 8, 2, 0, [])) rfl).trans rfl
theorem u_X2_mostFar_122 {d : Nat} {st : List zV} {h : zH} {l1 l2 l3 l4 l5 l6 l7 l8 : Option zV} {x : (Option Nat)} : zX d tb_X2_mostFar 122 [some (.inr (.inr x)), l1, l2, l3, l4, l5, l6, l7, l8] st h = zX d tb_X2_mostFar 123 [some (.inr (.inr x)), l1, l2, l3, l4, l5, l6, l7, l8] (.inr (.inr x) :: st) h := (zX_unf (o := (.aload_n 0, 1, 0, [])) rfl).trans rfl
theorem u_X2_mostFar_123 {d : Nat} {st : List zV} {h : zH} {l0 l2 l3 l4 l5 l6 l7 l8 : Option zV} {x : (Option Nat)} : zX d tb_X2_mostFar 123 [l0, some (.inr (.inr x)), l2, l3, l4, l5, l6, l7, l8] st h = zX d tb_X2_mostFar 124 [l0, some (.inr (.inr x)), l2, l3, l4, l5, l6, l7, l8] (.inr (.inr x) :: st) h := (zX_unf (o := (.aload_n 1, 1, 0, [])) rfl).trans rfl
theorem u_X2_mostFar_124 {d : Nat} {st : List zV} {h : zH} {l0 l1 l3 l4 l5 l6 l7 l8 : Option zV} {x : Int32} : zX d tb_X2_mostFar 124 [l0, l1, some (.inl x), l3, l4, l5, l6, l7, l8] st h = zX d tb_X2_mostFar 125 [l0, l1, some (.inl x), l3, l4, l5, l6, l7, l8] (.inl x :: st) h := (zX_unf (o := (.iload_n 2, 1, 0, [])) rfl).trans rfl
theorem u_X2_mostFar_125 {d : Nat} {ls : zL} {st : List zV} {h : zH} : zX d tb_X2_mostFar 125 ls st h = zX d tb_X2_mostFar 126 ls (.inl 1 :: st) h := (zX_unf (o := (.iconst 1, 1, 0, [])) rfl).trans rfl
theorem u_X2_mostFar_126 {d : Nat} {ls : zL} {st : List zV} {h : zH} {x y : Int32} : zX d tb_X2_mostFar 126 ls (.inl y :: .inl x :: st) h = zX d tb_X2_mostFar 127 ls (.inl (x + y) :: st) h := (zX_unf (o := (.iadd, 1, 0, [])) rfl).trans rfl
theorem u_X2_mostFar_127 {d : Nat} {st : List zV} {h : zH} {l0 l1 l2 l4 l5 l6 l7 l8 : Option zV} {x : Int32} : zX d tb_X2_mostFar 127 [l0, l1, l2, some (.inl x), l4, l5, l6, l7, l8] st h = zX d tb_X2_mostFar 128 [l0, l1, l2, some (.inl x), l4, l5, l6, l7, l8] (.inl x :: st) h := (zX_unf (o := (.iload_n 3, 1, 0, [])) rfl).trans rfl
theorem u_X2_mostFar_128 {d : Nat} {ls : zL} {st : List zV} {h : zH} : zX d tb_X2_mostFar 128 ls st h = zX d tb_X2_mostFar 129 ls (.inl 1 :: st) h := (zX_unf (o := (.iconst 1, 1, 0, [])) rfl).trans rfl
theorem u_X2_mostFar_129 {d : Nat} {st : List zV} {h : zH} {l0 l1 l2 l3 l5 l6 l7 l8 : Option zV} {x : Int32} : zX d tb_X2_mostFar 129 [l0, l1, l2, l3, some (.inl x), l5, l6, l7, l8] st h = zX d tb_X2_mostFar 131 [l0, l1, l2, l3, some (.inl x), l5, l6, l7, l8] (.inl x :: st) h := (zX_unf (o := (.iload 4, 2, 0, [])) rfl).trans rfl
theorem u_X2_mostFar_131 {d : Nat} {ls : zL} {st : List zV} {h : zH} {x y : Int32} : zX d tb_X2_mostFar 131 ls (.inl y :: .inl x :: st) h = zX d tb_X2_mostFar 132 ls (.inl (x <<< (y &&& 31)) :: st) h := (zX_unf (o := (.ishl, 1, 0, [])) rfl).trans rfl
theorem u_X2_mostFar_132 {d : Nat} {ls : zL} {st : List zV} {h : zH} {x y : Int32} : zX d tb_X2_mostFar 132 ls (.inl y :: .inl x :: st) h = zX d tb_X2_mostFar 133 ls (.inl (x ||| y) :: st) h := (zX_unf (o := (.ior, 1, 0, [])) rfl).trans rfl
theorem u_X2_mostFar_133 {d : Nat} {st : List zV} {h : zH} {l0 l1 l2 l3 l4 l5 l6 l7 : Option zV} {x : Int32} : zX d tb_X2_mostFar 133 [l0, l1, l2, l3, l4, l5, l6, l7, some (.inl x)] st h = zX d tb_X2_mostFar 135 [l0, l1, l2, l3, l4, l5, l6, l7, some (.inl x)] (.inl x :: st) h := (zX_unf (o := (.iload 8, 2, 0, [])) rfl).trans rfl
theorem u_X2_mostFar_135 {d : Nat} {ls : zL} {h : zH} {a : Nat} {v0 : (Option Nat)} {v1 : Int32} {v2 : Int32} {v3 : Int32} {r0 : zV} : zX d tb_X2_mostFar 135 ls [.inl v3, .inl v2, .inl v1, .inr (.inr v0), .inr (.inr (some a)), r0] h = if 2 = (zk h a).1 then (zcall (zP zM) d 13 [.inr (.inr (some a)), .inr (.inr v0), .inl v1, .inl v2, .inl v3] h).bind (fun q => zX d tb_X2_mostFar 138 ls (q.1.toList ++ [r0]) q.2) else none := (ux_callV (t := [(2, 13, 0, "", "")]) (as := [.inr (.inr v0), .inl v1, .inl v2, .inl v3]) (r := [r0]) rfl (n := 4) rfl rfl rfl (Nat.le_of_ble_eq_true rfl)).trans (zfb_1 _ _)
theorem u_X2_mostFar_138 {d : Nat} {ls : zL} {h : zH} {x y : Int32} : zX d tb_X2_mostFar 138 ls [.inl y, .inl x] h = zX d tb_X2_mostFar 141 ls [.inl (if x < y then y else x)] h := (zX_unf (o := (.invokestatic 23, 3, (-3), [])) rfl).trans rfl
theorem u_X2_mostFar_141 {d : Nat} {ls : zL} {h : zH} {v : Int32} : zX d tb_X2_mostFar 141 ls [.inl v] h = some (some (.inl v), h) := (zX_unf (o := (.ireturn, 1, 0, [])) rfl).trans rfl
theorem e_X3_init {d : Nat} {h : zH} {a : Nat} : zcall (zP zM) (d + 1) 15 [.inr (.inr (some a))] h = zX d tb_X3_init 0 [some (.inr (.inr (some a)))] [] h := (zcall_succ _ _ _ _ _).trans (if_pos (Nat.le_of_ble_eq_true rfl))
theorem u_X3_init_0 {d : Nat} {st : List zV} {h : zH} {x : (Option Nat)} : zX d tb_X3_init 0 [some (.inr (.inr x))] st h = zX d tb_X3_init 1 [some (.inr (.inr x))] (.inr (.inr x) :: st) h := (zX_unf (o := (.aload_n 0, 1, 0, [])) rfl).trans rfl
theorem u_X3_init_1 {d : Nat} {ls : zL} {h : zH} {a : Nat} : zX d tb_X3_init 1 ls [.inr (.inr (some a))] h = zX d tb_X3_init 4 ls [] h := (zX_unf (o := (.invokespecial 3, 3, (-1), [])) rfl).trans rfl
theorem u_X3_init_4 {d : Nat} {st : List zV} {h : zH} {x : (Option Nat)} : zX d tb_X3_init 4 [some (.inr (.inr x))] st h = zX d tb_X3_init 5 [some (.inr (.inr x))] (.inr (.inr x) :: st) h := (zX_unf (o := (.aload_n 0, 1, 0, [])) rfl).trans rfl
theorem u_X3_init_5 {d : Nat} {ls : zL} {st : List zV} {h : zH} : zX d tb_X3_init 5 ls st h = zX d tb_X3_init 7 ls (.inl (-9) :: st) h := (zX_unf (o := (.bipush (-9), 2, 0, [])) rfl).trans rfl
theorem u_X3_init_7 {d : Nat} {ls : zL} {st : List zV} {h : zH} {a : Nat} {v : Int32} : zX d tb_X3_init 7 ls (.inl v :: .inr (.inr (some a)) :: st) h = if 3 = (zk h a).1 then zX d tb_X3_init 10 ls st (zwI h a 0 v) else none := (ux_put (t := [(3, 0, 0, "", "")]) rfl).trans (zfb_1 _ _)
theorem u_X3_init_10 {d : Nat} {st : List zV} {h : zH} {x : (Option Nat)} : zX d tb_X3_init 10 [some (.inr (.inr x))] st h = zX d tb_X3_init 11 [some (.inr (.inr x))] (.inr (.inr x) :: st) h := (zX_unf (o := (.aload_n 0, 1, 0, [])) rfl).trans rfl
theorem u_X3_init_11 {d : Nat} {ls : zL} {st : List zV} {h : zH} : zX d tb_X3_init 11 ls st h = zX d tb_X3_init 12 ls (.inl 5 :: st) h := (zX_unf (o := (.iconst 5, 1, 0, [])) rfl).trans rfl
theorem u_X3_init_12 {d : Nat} {ls : zL} {st : List zV} {h : zH} {n : Int32} : zX d tb_X3_init 12 ls (.inl n :: st) h = if n < 0 ∨ 1000 < n.toNatClampNeg then none else zX d tb_X3_init 14 ls (.inr (.inr (some (zn h))) :: st) (zN h 12 n.toNatClampNeg n.toNatClampNeg) := ux_newa rfl
theorem u_X3_init_14 {d : Nat} {ls : zL} {st : List zV} {h : zH} {a : Nat} {r : Option Nat} : zX d tb_X3_init 14 ls (.inr (.inr r) :: .inr (.inr (some a)) :: st) h = if 3 = (zk h a).1 then zX d tb_X3_init 17 ls st (zwR h a 1 r) else none := (ux_putr (t := [(3, 1, 0, "", "")]) rfl).trans (zfb_1 _ _)
theorem u_X3_init_17 {d : Nat} {st : List zV} {h : zH} {x : (Option Nat)} : zX d tb_X3_init 17 [some (.inr (.inr x))] st h = zX d tb_X3_init 18 [some (.inr (.inr x))] (.inr (.inr x) :: st) h := (zX_unf (o := (.aload_n 0, 1, 0, [])) rfl).trans rfl
theorem u_X3_init_18 {d : Nat} {ls : zL} {st : List zV} {h : zH} : zX d tb_X3_init 18 ls st h = zX d tb_X3_init 19 ls (.inl 5 :: st) h := (zX_unf (o := (.iconst 5, 1, 0, [])) rfl).trans rfl
theorem u_X3_init_19 {d : Nat} {ls : zL} {st : List zV} {h : zH} {n : Int32} : zX d tb_X3_init 19 ls (.inl n :: st) h = if n < 0 ∨ 1000 < n.toNatClampNeg then none else zX d tb_X3_init 21 ls (.inr (.inr (some (zn h))) :: st) (zN h 12 n.toNatClampNeg n.toNatClampNeg) := ux_newa rfl
theorem u_X3_init_21 {d : Nat} {ls : zL} {st : List zV} {h : zH} {a : Nat} {r : Option Nat} : zX d tb_X3_init 21 ls (.inr (.inr r) :: .inr (.inr (some a)) :: st) h = if 3 = (zk h a).1 then zX d tb_X3_init 24 ls st (zwR h a 2 r) else none := (ux_putr (t := [(3, 2, 0, "", "")]) rfl).trans (zfb_1 _ _)
theorem u_X3_init_24 {d : Nat} {st : List zV} {h : zH} {x : (Option Nat)} : zX d tb_X3_init 24 [some (.inr (.inr x))] st h = zX d tb_X3_init 25 [some (.inr (.inr x))] (.inr (.inr x) :: st) h := (zX_unf (o := (.aload_n 0, 1, 0, [])) rfl).trans rfl
theorem u_X3_init_25 {d : Nat} {ls : zL} {st : List zV} {h : zH} : zX d tb_X3_init 25 ls st h = zX d tb_X3_init 27 ls (.inl 6 :: st) h := (zX_unf (o := (.bipush 6, 2, 0, [])) rfl).trans rfl
theorem u_X3_init_27 {d : Nat} {ls : zL} {h : zH} {v0 : Int32} {r0 : zV} : zX d tb_X3_init 27 ls [.inl v0, r0] h = (zcall (zP zM) d 84 [.inl v0] h).bind fun q => zX d tb_X3_init 30 ls (q.1.toList ++ [r0]) q.2 := ux_callS (as := [.inl v0]) (r := [r0]) rfl (n := 1) rfl rfl rfl rfl (Nat.le_of_ble_eq_true rfl)
theorem u_X3_init_30 {d : Nat} {ls : zL} {st : List zV} {h : zH} {a : Nat} {r : Option Nat} : zX d tb_X3_init 30 ls (.inr (.inr r) :: .inr (.inr (some a)) :: st) h = if 3 = (zk h a).1 then zX d tb_X3_init 33 ls st (zwR h a 3 r) else none := (ux_putr (t := [(3, 3, 0, "", "")]) rfl).trans (zfb_1 _ _)
theorem u_X3_init_33 {d : Nat} {st : List zV} {h : zH} {x : (Option Nat)} : zX d tb_X3_init 33 [some (.inr (.inr x))] st h = zX d tb_X3_init 34 [some (.inr (.inr x))] (.inr (.inr x) :: st) h := (zX_unf (o := (.aload_n 0, 1, 0, [])) rfl).trans rfl
theorem u_X3_init_34 {d : Nat} {ls : zL} {st : List zV} {h : zH} : zX d tb_X3_init 34 ls st h = zX d tb_X3_init 35 ls (.inl 0 :: st) h := (zX_unf (o := (.iconst 0, 1, 0, [])) rfl).trans rfl
theorem u_X3_init_35 {d : Nat} {ls : zL} {st : List zV} {h : zH} {a : Nat} {v : Int32} : zX d tb_X3_init 35 ls (.inl v :: .inr (.inr (some a)) :: st) h = if 3 = (zk h a).1 then zX d tb_X3_init 38 ls st (zwI h a 4 v) else none := (ux_put (t := [(3, 4, 0, "", "")]) rfl).trans (zfb_1 _ _)
theorem u_X3_init_38 {d : Nat} {ls : zL} {h : zH} : zX d tb_X3_init 38 ls [] h = some (none, h) := (zX_unf (o := (.return_, 1, 0, [])) rfl).trans rfl
theorem e_X3_seek {d : Nat} {h : zH} {v0 : (Option Nat)} {v1 : (Option Nat)} {v2 : Int32} {a : Nat} : zcall (zP zM) (d + 1) 16 [.inr (.inr (some a)), .inr (.inr v0), .inr (.inr v1), .inl v2] h = zX d tb_X3_seek 0 [some (.inr (.inr (some a))), some (.inr (.inr v0)), some (.inr (.inr v1)), some (.inl v2)] [] h := (zcall_succ _ _ _ _ _).trans (if_pos (Nat.le_of_ble_eq_true rfl))
theorem u_X3_seek_0 {d : Nat} {st : List zV} {h : zH} {l1 l2 l3 : Option zV} {x : (Option Nat)} : zX d tb_X3_seek 0 [some (.inr (.inr x)), l1, l2, l3] st h = zX d tb_X3_seek 1 [some (.inr (.inr x)), l1, l2, l3] (.inr (.inr x) :: st) h := (zX_unf (o := (.aload_n 0, 1, 0, [])) rfl).trans rfl
theorem u_X3_seek_1 {d : Nat} {st : List zV} {h : zH} {l0 l1 l2 : Option zV} {x : Int32} : zX d tb_X3_seek 1 [l0, l1, l2, some (.inl x)] st h = zX d tb_X3_seek 2 [l0, l1, l2, some (.inl x)] (.inl x :: st) h := (zX_unf (o := (.iload_n 3, 1, 0, [])) rfl).trans rfl
theorem u_X3_seek_2 {d : Nat} {ls : zL} {st : List zV} {h : zH} : zX d tb_X3_seek 2 ls st h = zX d tb_X3_seek 3 ls (.inl 0 :: st) h := (zX_unf (o := (.iconst 0, 1, 0, [])) rfl).trans rfl
theorem u_X3_seek_3 {d : Nat} {ls : zL} {h : zH} {x y : Int32} {r0 : zV} : zX d tb_X3_seek 3 ls [.inl y, .inl x, r0] h = zX d tb_X3_seek 6 ls [.inl (if x < y then y else x), r0] h := (zX_unf (o := (.invokestatic 33, 3, (-3), [])) rfl).trans rfl
theorem u_X3_seek_6 {d : Nat} {ls : zL} {st : List zV} {h : zH} : zX d tb_X3_seek 6 ls st h = zX d tb_X3_seek 7 ls (.inl 5 :: st) h := (zX_unf (o := (.iconst 5, 1, 0, [])) rfl).trans rfl
theorem u_X3_seek_7 {d : Nat} {ls : zL} {h : zH} {x y : Int32} {r0 : zV} : zX d tb_X3_seek 7 ls [.inl y, .inl x, r0] h = zX d tb_X3_seek 10 ls [.inl (if y < x then y else x), r0] h := (zX_unf (o := (.invokestatic 39, 3, (-4), [])) rfl).trans rfl
theorem u_X3_seek_10 {d : Nat} {ls : zL} {st : List zV} {h : zH} {a : Nat} {v : Int32} : zX d tb_X3_seek 10 ls (.inl v :: .inr (.inr (some a)) :: st) h = if 3 = (zk h a).1 then zX d tb_X3_seek 13 ls st (zwI h a 4 v) else none := (ux_put (t := [(3, 4, 0, "", "")]) rfl).trans (zfb_1 _ _)
theorem u_X3_seek_13 {d : Nat} {st : List zV} {h : zH} {l1 l2 l3 : Option zV} {x : (Option Nat)} : zX d tb_X3_seek 13 [some (.inr (.inr x)), l1, l2, l3] st h = zX d tb_X3_seek 14 [some (.inr (.inr x)), l1, l2, l3] (.inr (.inr x) :: st) h := (zX_unf (o := (.aload_n 0, 1, 0, [])) rfl).trans rfl
theorem u_X3_seek_14 {d : Nat} {ls : zL} {st : List zV} {h : zH} : zX d tb_X3_seek 14 ls st h = zX d tb_X3_seek 16 ls (.inl (-9) :: st) h := (zX_unf (o := (.bipush (-9), 2, 0, [])) rfl).trans rfl
theorem u_X3_seek_16 {d : Nat} {ls : zL} {st : List zV} {h : zH} {a : Nat} {v : Int32} : zX d tb_X3_seek 16 ls (.inl v :: .inr (.inr (some a)) :: st) h = if 3 = (zk h a).1 then zX d tb_X3_seek 19 ls st (zwI h a 0 v) else none := (ux_put (t := [(3, 0, 0, "", "")]) rfl).trans (zfb_1 _ _)
theorem u_X3_seek_19 {d : Nat} {st : List zV} {h : zH} {l1 l2 l3 : Option zV} {x : (Option Nat)} : zX d tb_X3_seek 19 [some (.inr (.inr x)), l1, l2, l3] st h = zX d tb_X3_seek 20 [some (.inr (.inr x)), l1, l2, l3] (.inr (.inr x) :: st) h := (zX_unf (o := (.aload_n 0, 1, 0, [])) rfl).trans rfl
theorem u_X3_seek_20 {d : Nat} {ls : zL} {st : List zV} {h : zH} {a : Nat} : zX d tb_X3_seek 20 ls (.inr (.inr (some a)) :: st) h = if 3 = (zk h a).1 then zX d tb_X3_seek 23 ls (.inr (.inr (zr h a 3)) :: st) h else none := (ux_getr (t := [(3, 3, 0, "", "")]) rfl).trans (zfb_1 _ _)
theorem u_X3_seek_23 {d : Nat} {ls : zL} {st : List zV} {h : zH} : zX d tb_X3_seek 23 ls st h = zX d tb_X3_seek 24 ls (.inl 0 :: st) h := (zX_unf (o := (.iconst 0, 1, 0, [])) rfl).trans rfl
theorem u_X3_seek_24 {d : Nat} {ls : zL} {st : List zV} {h : zH} {a : Nat} {i : Int32} : zX d tb_X3_seek 24 ls (.inl i :: .inr (.inr (some a)) :: st) h = if 13 ≤ (zk h a).1 ∧ (zk h a).1 ≤ 15 then (zix i (zk h a).2).bind fun j => zX d tb_X3_seek 25 ls (.inr (.inr (zr h a j)) :: st) h else none := ux_aald rfl
theorem u_X3_seek_25 {d : Nat} {st : List zV} {h : zH} {l0 l1 l3 : Option zV} {x : (Option Nat)} : zX d tb_X3_seek 25 [l0, l1, some (.inr (.inr x)), l3] st h = zX d tb_X3_seek 26 [l0, l1, some (.inr (.inr x)), l3] (.inr (.inr x) :: st) h := (zX_unf (o := (.aload_n 2, 1, 0, [])) rfl).trans rfl
theorem u_X3_seek_26 {d : Nat} {ls : zL} {h : zH} {a : Nat} {v0 : (Option Nat)} : zX d tb_X3_seek 26 ls [.inr (.inr v0), .inr (.inr (some a))] h = if 4 = (zk h a).1 then (zcall (zP zM) d 20 [.inr (.inr (some a)), .inr (.inr v0)] h).bind (fun q => zX d tb_X3_seek 29 ls (q.1.toList ++ []) q.2) else none := (ux_callV (t := [(4, 20, 0, "", "")]) (as := [.inr (.inr v0)]) (r := []) rfl (n := 1) rfl rfl rfl (Nat.le_of_ble_eq_true rfl)).trans (zfb_1 _ _)
theorem u_X3_seek_29 {d : Nat} {st : List zV} {h : zH} {l1 l2 l3 : Option zV} {x : (Option Nat)} : zX d tb_X3_seek 29 [some (.inr (.inr x)), l1, l2, l3] st h = zX d tb_X3_seek 30 [some (.inr (.inr x)), l1, l2, l3] (.inr (.inr x) :: st) h := (zX_unf (o := (.aload_n 0, 1, 0, [])) rfl).trans rfl
theorem u_X3_seek_30 {d : Nat} {st : List zV} {h : zH} {l0 l2 l3 : Option zV} {x : (Option Nat)} : zX d tb_X3_seek 30 [l0, some (.inr (.inr x)), l2, l3] st h = zX d tb_X3_seek 31 [l0, some (.inr (.inr x)), l2, l3] (.inr (.inr x) :: st) h := (zX_unf (o := (.aload_n 1, 1, 0, [])) rfl).trans rfl
theorem u_X3_seek_31 {d : Nat} {ls : zL} {st : List zV} {h : zH} : zX d tb_X3_seek 31 ls st h = zX d tb_X3_seek 32 ls (.inl 0 :: st) h := (zX_unf (o := (.iconst 0, 1, 0, [])) rfl).trans rfl
theorem u_X3_seek_32 {d : Nat} {ls : zL} {st : List zV} {h : zH} : zX d tb_X3_seek 32 ls st h = zX d tb_X3_seek 33 ls (.inl 0 :: st) h := (zX_unf (o := (.iconst 0, 1, 0, [])) rfl).trans rfl
theorem u_X3_seek_33 {d : Nat} {ls : zL} {h : zH} {a : Nat} {v0 : (Option Nat)} {v1 : Int32} {v2 : Int32} : zX d tb_X3_seek 33 ls [.inl v2, .inl v1, .inr (.inr v0), .inr (.inr (some a))] h = if 3 = (zk h a).1 then (zcall (zP zM) d 17 [.inr (.inr (some a)), .inr (.inr v0), .inl v1, .inl v2] h).bind (fun q => zX d tb_X3_seek 36 ls (q.1.toList ++ []) q.2) else none := (ux_callV (t := [(3, 17, 0, "", "")]) (as := [.inr (.inr v0), .inl v1, .inl v2]) (r := []) rfl (n := 3) rfl rfl rfl (Nat.le_of_ble_eq_true rfl)).trans (zfb_1 _ _)
theorem u_X3_seek_36 {d : Nat} {ls : zL} {h : zH} : zX d tb_X3_seek 36 ls [] h = some (none, h) := (zX_unf (o := (.return_, 1, 0, [])) rfl).trans rfl
theorem e_X3_goOn {d : Nat} {h : zH} {v0 : (Option Nat)} {v1 : Int32} {v2 : Int32} {a : Nat} : zcall (zP zM) (d + 1) 17 [.inr (.inr (some a)), .inr (.inr v0), .inl v1, .inl v2] h = zX d tb_X3_goOn 0 [some (.inr (.inr (some a))), some (.inr (.inr v0)), some (.inl v1), some (.inl v2), none, none, none] [] h := (zcall_succ _ _ _ _ _).trans (if_pos (Nat.le_of_ble_eq_true rfl))
theorem u_X3_goOn_0 {d : Nat} {st : List zV} {h : zH} {l0 l1 l3 l4 l5 l6 : Option zV} {x : Int32} : zX d tb_X3_goOn 0 [l0, l1, some (.inl x), l3, l4, l5, l6] st h = zX d tb_X3_goOn 1 [l0, l1, some (.inl x), l3, l4, l5, l6] (.inl x :: st) h := (zX_unf (o := (.iload_n 2, 1, 0, [])) rfl).trans rfl
theorem u_X3_goOn_1 {d : Nat} {ls : zL} {st : List zV} {h : zH} {x : Int32} : zX d tb_X3_goOn 1 ls (.inl x :: st) h = if x < 0 then zX d tb_X3_goOn 12 ls st h else zX d tb_X3_goOn 4 ls st h := ux_if_lt rfl rfl
theorem u_X3_goOn_4 {d : Nat} {st : List zV} {h : zH} {l0 l1 l3 l4 l5 l6 : Option zV} {x : Int32} : zX d tb_X3_goOn 4 [l0, l1, some (.inl x), l3, l4, l5, l6] st h = zX d tb_X3_goOn 5 [l0, l1, some (.inl x), l3, l4, l5, l6] (.inl x :: st) h := (zX_unf (o := (.iload_n 2, 1, 0, [])) rfl).trans rfl
theorem u_X3_goOn_5 {d : Nat} {st : List zV} {h : zH} {l1 l2 l3 l4 l5 l6 : Option zV} {x : (Option Nat)} : zX d tb_X3_goOn 5 [some (.inr (.inr x)), l1, l2, l3, l4, l5, l6] st h = zX d tb_X3_goOn 6 [some (.inr (.inr x)), l1, l2, l3, l4, l5, l6] (.inr (.inr x) :: st) h := (zX_unf (o := (.aload_n 0, 1, 0, [])) rfl).trans rfl
theorem u_X3_goOn_6 {d : Nat} {ls : zL} {st : List zV} {h : zH} {a : Nat} : zX d tb_X3_goOn 6 ls (.inr (.inr (some a)) :: st) h = if 3 = (zk h a).1 then zX d tb_X3_goOn 9 ls (.inl (zi h a 4) :: st) h else none := (ux_get (t := [(3, 4, 0, "", "")]) rfl (by decide)).trans (zfb_1 _ _)
theorem u_X3_goOn_9 {d : Nat} {ls : zL} {st : List zV} {h : zH} {x y : Int32} : zX d tb_X3_goOn 9 ls (.inl y :: .inl x :: st) h = if y < x then zX d tb_X3_goOn 12 ls st h else zX d tb_X3_goOn 13 ls st h := ux_ic_le rfl rfl
theorem u_X3_goOn_12 {d : Nat} {ls : zL} {h : zH} : zX d tb_X3_goOn 12 ls [] h = some (none, h) := (zX_unf (o := (.return_, 1, 0, [])) rfl).trans rfl
theorem u_X3_goOn_13 {d : Nat} {st : List zV} {h : zH} {l1 l2 l3 l4 l5 l6 : Option zV} {x : (Option Nat)} : zX d tb_X3_goOn 13 [some (.inr (.inr x)), l1, l2, l3, l4, l5, l6] st h = zX d tb_X3_goOn 14 [some (.inr (.inr x)), l1, l2, l3, l4, l5, l6] (.inr (.inr x) :: st) h := (zX_unf (o := (.aload_n 0, 1, 0, [])) rfl).trans rfl
theorem u_X3_goOn_14 {d : Nat} {ls : zL} {st : List zV} {h : zH} {a : Nat} : zX d tb_X3_goOn 14 ls (.inr (.inr (some a)) :: st) h = if 3 = (zk h a).1 then zX d tb_X3_goOn 17 ls (.inr (.inr (zr h a 3)) :: st) h else none := (ux_getr (t := [(3, 3, 0, "", "")]) rfl).trans (zfb_1 _ _)
theorem u_X3_goOn_17 {d : Nat} {st : List zV} {h : zH} {l0 l1 l3 l4 l5 l6 : Option zV} {x : Int32} : zX d tb_X3_goOn 17 [l0, l1, some (.inl x), l3, l4, l5, l6] st h = zX d tb_X3_goOn 18 [l0, l1, some (.inl x), l3, l4, l5, l6] (.inl x :: st) h := (zX_unf (o := (.iload_n 2, 1, 0, [])) rfl).trans rfl
theorem u_X3_goOn_18 {d : Nat} {ls : zL} {st : List zV} {h : zH} {a : Nat} {i : Int32} : zX d tb_X3_goOn 18 ls (.inl i :: .inr (.inr (some a)) :: st) h = if 13 ≤ (zk h a).1 ∧ (zk h a).1 ≤ 15 then (zix i (zk h a).2).bind fun j => zX d tb_X3_goOn 19 ls (.inr (.inr (zr h a j)) :: st) h else none := ux_aald rfl
theorem u_X3_goOn_19 {d : Nat} {st : List zV} {h : zH} {l0 l1 l2 l3 l4 l5 l6 : Option zV} {x : (Option Nat)} : zX d tb_X3_goOn 19 [l0, l1, l2, l3, l4, l5, l6] (.inr (.inr x) :: st) h = zX d tb_X3_goOn 21 [l0, l1, l2, zcl l3, some (.inr (.inr x)), l5, l6] st h := (zX_unf (o := (.astore 4, 2, 0, [])) rfl).trans rfl
theorem u_X3_goOn_21 {d : Nat} {st : List zV} {h : zH} {l0 l1 l2 l3 l5 l6 : Option zV} {x : (Option Nat)} : zX d tb_X3_goOn 21 [l0, l1, l2, l3, some (.inr (.inr x)), l5, l6] st h = zX d tb_X3_goOn 23 [l0, l1, l2, l3, some (.inr (.inr x)), l5, l6] (.inr (.inr x) :: st) h := (zX_unf (o := (.aload 4, 2, 0, [])) rfl).trans rfl
theorem u_X3_goOn_23 {d : Nat} {ls : zL} {st : List zV} {h : zH} {a : Nat} : zX d tb_X3_goOn 23 ls (.inr (.inr (some a)) :: st) h = if 4 = (zk h a).1 then zX d tb_X3_goOn 26 ls (.inl (zi h a 1) :: st) h else none := (ux_get (t := [(4, 1, 0, "", "")]) rfl (by decide)).trans (zfb_1 _ _)
theorem u_X3_goOn_26 {d : Nat} {st : List zV} {h : zH} {l1 l2 l3 l4 l5 l6 : Option zV} {x : (Option Nat)} : zX d tb_X3_goOn 26 [some (.inr (.inr x)), l1, l2, l3, l4, l5, l6] st h = zX d tb_X3_goOn 27 [some (.inr (.inr x)), l1, l2, l3, l4, l5, l6] (.inr (.inr x) :: st) h := (zX_unf (o := (.aload_n 0, 1, 0, [])) rfl).trans rfl
theorem u_X3_goOn_27 {d : Nat} {ls : zL} {st : List zV} {h : zH} {a : Nat} : zX d tb_X3_goOn 27 ls (.inr (.inr (some a)) :: st) h = if 3 = (zk h a).1 then zX d tb_X3_goOn 30 ls (.inl (zi h a 4) :: st) h else none := (ux_get (t := [(3, 4, 0, "", "")]) rfl (by decide)).trans (zfb_1 _ _)
theorem u_X3_goOn_30 {d : Nat} {ls : zL} {st : List zV} {h : zH} {x y : Int32} : zX d tb_X3_goOn 30 ls (.inl y :: .inl x :: st) h = zX d tb_X3_goOn 31 ls (.inl (x + y) :: st) h := (zX_unf (o := (.iadd, 1, 0, [])) rfl).trans rfl
theorem u_X3_goOn_31 {d : Nat} {st : List zV} {h : zH} {l0 l1 l3 l4 l5 l6 : Option zV} {x : Int32} : zX d tb_X3_goOn 31 [l0, l1, some (.inl x), l3, l4, l5, l6] st h = zX d tb_X3_goOn 32 [l0, l1, some (.inl x), l3, l4, l5, l6] (.inl x :: st) h := (zX_unf (o := (.iload_n 2, 1, 0, [])) rfl).trans rfl
theorem u_X3_goOn_32 {d : Nat} {ls : zL} {st : List zV} {h : zH} {x y : Int32} : zX d tb_X3_goOn 32 ls (.inl y :: .inl x :: st) h = zX d tb_X3_goOn 33 ls (.inl (x - y) :: st) h := (zX_unf (o := (.isub, 1, 0, [])) rfl).trans rfl
theorem u_X3_goOn_33 {d : Nat} {st : List zV} {h : zH} {l1 l2 l3 l4 l5 l6 : Option zV} {x : (Option Nat)} : zX d tb_X3_goOn 33 [some (.inr (.inr x)), l1, l2, l3, l4, l5, l6] st h = zX d tb_X3_goOn 34 [some (.inr (.inr x)), l1, l2, l3, l4, l5, l6] (.inr (.inr x) :: st) h := (zX_unf (o := (.aload_n 0, 1, 0, [])) rfl).trans rfl
theorem u_X3_goOn_34 {d : Nat} {ls : zL} {st : List zV} {h : zH} {a : Nat} : zX d tb_X3_goOn 34 ls (.inr (.inr (some a)) :: st) h = if 3 = (zk h a).1 then zX d tb_X3_goOn 37 ls (.inl (zi h a 0) :: st) h else none := (ux_get (t := [(3, 0, 0, "", "")]) rfl (by decide)).trans (zfb_1 _ _)
theorem u_X3_goOn_37 {d : Nat} {ls : zL} {st : List zV} {h : zH} {x y : Int32} : zX d tb_X3_goOn 37 ls (.inl y :: .inl x :: st) h = if y < x then zX d tb_X3_goOn 41 ls st h else zX d tb_X3_goOn 40 ls st h := ux_ic_gt rfl rfl
theorem u_X3_goOn_40 {d : Nat} {ls : zL} {h : zH} : zX d tb_X3_goOn 40 ls [] h = some (none, h) := (zX_unf (o := (.return_, 1, 0, [])) rfl).trans rfl
theorem u_X3_goOn_41 {d : Nat} {st : List zV} {h : zH} {l0 l1 l3 l4 l5 l6 : Option zV} {x : Int32} : zX d tb_X3_goOn 41 [l0, l1, some (.inl x), l3, l4, l5, l6] st h = zX d tb_X3_goOn 42 [l0, l1, some (.inl x), l3, l4, l5, l6] (.inl x :: st) h := (zX_unf (o := (.iload_n 2, 1, 0, [])) rfl).trans rfl
theorem u_X3_goOn_42 {d : Nat} {st : List zV} {h : zH} {l1 l2 l3 l4 l5 l6 : Option zV} {x : (Option Nat)} : zX d tb_X3_goOn 42 [some (.inr (.inr x)), l1, l2, l3, l4, l5, l6] st h = zX d tb_X3_goOn 43 [some (.inr (.inr x)), l1, l2, l3, l4, l5, l6] (.inr (.inr x) :: st) h := (zX_unf (o := (.aload_n 0, 1, 0, [])) rfl).trans rfl
theorem u_X3_goOn_43 {d : Nat} {ls : zL} {st : List zV} {h : zH} {a : Nat} : zX d tb_X3_goOn 43 ls (.inr (.inr (some a)) :: st) h = if 3 = (zk h a).1 then zX d tb_X3_goOn 46 ls (.inl (zi h a 4) :: st) h else none := (ux_get (t := [(3, 4, 0, "", "")]) rfl (by decide)).trans (zfb_1 _ _)
theorem u_X3_goOn_46 {d : Nat} {ls : zL} {st : List zV} {h : zH} {x y : Int32} : zX d tb_X3_goOn 46 ls (.inl y :: .inl x :: st) h = if x = y then zX d tb_X3_goOn 49 ls st h else zX d tb_X3_goOn 76 ls st h := ux_ic_ne rfl rfl
theorem u_X3_goOn_49 {d : Nat} {st : List zV} {h : zH} {l1 l2 l3 l4 l5 l6 : Option zV} {x : (Option Nat)} : zX d tb_X3_goOn 49 [some (.inr (.inr x)), l1, l2, l3, l4, l5, l6] st h = zX d tb_X3_goOn 50 [some (.inr (.inr x)), l1, l2, l3, l4, l5, l6] (.inr (.inr x) :: st) h := (zX_unf (o := (.aload_n 0, 1, 0, [])) rfl).trans rfl
theorem u_X3_goOn_50 {d : Nat} {st : List zV} {h : zH} {l0 l1 l2 l3 l5 l6 : Option zV} {x : (Option Nat)} : zX d tb_X3_goOn 50 [l0, l1, l2, l3, some (.inr (.inr x)), l5, l6] st h = zX d tb_X3_goOn 52 [l0, l1, l2, l3, some (.inr (.inr x)), l5, l6] (.inr (.inr x) :: st) h := (zX_unf (o := (.aload 4, 2, 0, [])) rfl).trans rfl
theorem u_X3_goOn_52 {d : Nat} {ls : zL} {st : List zV} {h : zH} {a : Nat} : zX d tb_X3_goOn 52 ls (.inr (.inr (some a)) :: st) h = if 4 = (zk h a).1 then zX d tb_X3_goOn 55 ls (.inl (zi h a 1) :: st) h else none := (ux_get (t := [(4, 1, 0, "", "")]) rfl (by decide)).trans (zfb_1 _ _)
theorem u_X3_goOn_55 {d : Nat} {ls : zL} {st : List zV} {h : zH} {a : Nat} {v : Int32} : zX d tb_X3_goOn 55 ls (.inl v :: .inr (.inr (some a)) :: st) h = if 3 = (zk h a).1 then zX d tb_X3_goOn 58 ls st (zwI h a 0 v) else none := (ux_put (t := [(3, 0, 0, "", "")]) rfl).trans (zfb_1 _ _)
theorem u_X3_goOn_58 {d : Nat} {st : List zV} {h : zH} {l1 l2 l3 l4 l5 l6 : Option zV} {x : (Option Nat)} : zX d tb_X3_goOn 58 [some (.inr (.inr x)), l1, l2, l3, l4, l5, l6] st h = zX d tb_X3_goOn 59 [some (.inr (.inr x)), l1, l2, l3, l4, l5, l6] (.inr (.inr x) :: st) h := (zX_unf (o := (.aload_n 0, 1, 0, [])) rfl).trans rfl
theorem u_X3_goOn_59 {d : Nat} {ls : zL} {st : List zV} {h : zH} {a : Nat} : zX d tb_X3_goOn 59 ls (.inr (.inr (some a)) :: st) h = if 3 = (zk h a).1 then zX d tb_X3_goOn 62 ls (.inr (.inr (zr h a 2)) :: st) h else none := (ux_getr (t := [(3, 2, 0, "", "")]) rfl).trans (zfb_1 _ _)
theorem u_X3_goOn_62 {d : Nat} {ls : zL} {st : List zV} {h : zH} : zX d tb_X3_goOn 62 ls st h = zX d tb_X3_goOn 63 ls (.inl 0 :: st) h := (zX_unf (o := (.iconst 0, 1, 0, [])) rfl).trans rfl
theorem u_X3_goOn_63 {d : Nat} {st : List zV} {h : zH} {l1 l2 l3 l4 l5 l6 : Option zV} {x : (Option Nat)} : zX d tb_X3_goOn 63 [some (.inr (.inr x)), l1, l2, l3, l4, l5, l6] st h = zX d tb_X3_goOn 64 [some (.inr (.inr x)), l1, l2, l3, l4, l5, l6] (.inr (.inr x) :: st) h := (zX_unf (o := (.aload_n 0, 1, 0, [])) rfl).trans rfl
theorem u_X3_goOn_64 {d : Nat} {ls : zL} {st : List zV} {h : zH} {a : Nat} : zX d tb_X3_goOn 64 ls (.inr (.inr (some a)) :: st) h = if 3 = (zk h a).1 then zX d tb_X3_goOn 67 ls (.inr (.inr (zr h a 1)) :: st) h else none := (ux_getr (t := [(3, 1, 0, "", "")]) rfl).trans (zfb_1 _ _)
theorem u_X3_goOn_67 {d : Nat} {ls : zL} {st : List zV} {h : zH} : zX d tb_X3_goOn 67 ls st h = zX d tb_X3_goOn 68 ls (.inl 0 :: st) h := (zX_unf (o := (.iconst 0, 1, 0, [])) rfl).trans rfl
theorem u_X3_goOn_68 {d : Nat} {st : List zV} {h : zH} {l1 l2 l3 l4 l5 l6 : Option zV} {x : (Option Nat)} : zX d tb_X3_goOn 68 [some (.inr (.inr x)), l1, l2, l3, l4, l5, l6] st h = zX d tb_X3_goOn 69 [some (.inr (.inr x)), l1, l2, l3, l4, l5, l6] (.inr (.inr x) :: st) h := (zX_unf (o := (.aload_n 0, 1, 0, [])) rfl).trans rfl
theorem u_X3_goOn_69 {d : Nat} {ls : zL} {st : List zV} {h : zH} {a : Nat} : zX d tb_X3_goOn 69 ls (.inr (.inr (some a)) :: st) h = if 3 = (zk h a).1 then zX d tb_X3_goOn 72 ls (.inl (zi h a 4) :: st) h else none := (ux_get (t := [(3, 4, 0, "", "")]) rfl (by decide)).trans (zfb_1 _ _)
theorem u_X3_goOn_72 {d : Nat} {ls : zL} {h : zH} {n dp sp : Int32} {q a : Nat} : zX d tb_X3_goOn 72 ls [.inl n, .inl dp, .inr (.inr (some q)), .inl sp, .inr (.inr (some a))] h = if (zk h a).1 = 12 ∧ (zk h q).1 = 12 ∧ ¬ n < 0 ∧ ¬ dp < 0 ∧ ¬ sp < 0 ∧ sp.toNatClampNeg + n.toNatClampNeg ≤ (zk h a).2 ∧ dp.toNatClampNeg + n.toNatClampNeg ≤ (zk h q).2 then zX d tb_X3_goOn 75 ls [] (zwC h a sp.toNatClampNeg q dp.toNatClampNeg n.toNatClampNeg) else none := ux_copy rfl
theorem u_X3_goOn_75 {d : Nat} {ls : zL} {h : zH} : zX d tb_X3_goOn 75 ls [] h = some (none, h) := (zX_unf (o := (.return_, 1, 0, [])) rfl).trans rfl
theorem u_X3_goOn_76 {d : Nat} {ls : zL} {st : List zV} {h : zH} : zX d tb_X3_goOn 76 ls st h = zX d tb_X3_goOn 77 ls (.inl 0 :: st) h := (zX_unf (o := (.iconst 0, 1, 0, [])) rfl).trans rfl
theorem u_X3_goOn_77 {d : Nat} {st : List zV} {h : zH} {l0 l1 l2 l3 l4 l5 l6 : Option zV} {x : Int32} : zX d tb_X3_goOn 77 [l0, l1, l2, l3, l4, l5, l6] (.inl x :: st) h = zX d tb_X3_goOn 79 [l0, l1, l2, l3, zcl l4, some (.inl x), l6] st h := (zX_unf (o := (.istore 5, 2, 0, [])) rfl).trans rfl
theorem u_X3_goOn_79 {d : Nat} {st : List zV} {h : zH} {l0 l1 l2 l3 l4 l6 : Option zV} {x : Int32} : zX d tb_X3_goOn 79 [l0, l1, l2, l3, l4, some (.inl x), l6] st h = zX d tb_X3_goOn 81 [l0, l1, l2, l3, l4, some (.inl x), l6] (.inl x :: st) h := (zX_unf (o := (.iload 5, 2, 0, [])) rfl).trans rfl
theorem u_X3_goOn_81 {d : Nat} {st : List zV} {h : zH} {l0 l2 l3 l4 l5 l6 : Option zV} {x : (Option Nat)} : zX d tb_X3_goOn 81 [l0, some (.inr (.inr x)), l2, l3, l4, l5, l6] st h = zX d tb_X3_goOn 82 [l0, some (.inr (.inr x)), l2, l3, l4, l5, l6] (.inr (.inr x) :: st) h := (zX_unf (o := (.aload_n 1, 1, 0, [])) rfl).trans rfl
theorem u_X3_goOn_82 {d : Nat} {ls : zL} {st : List zV} {h : zH} {a : Nat} : zX d tb_X3_goOn 82 ls (.inr (.inr (some a)) :: st) h = if 1 = (zk h a).1 then zX d tb_X3_goOn 85 ls (.inl (zi h a 1) :: st) h else none := (ux_get (t := [(1, 1, 0, "", "")]) rfl (by decide)).trans (zfb_1 _ _)
theorem u_X3_goOn_85 {d : Nat} {ls : zL} {st : List zV} {h : zH} {x y : Int32} : zX d tb_X3_goOn 85 ls (.inl y :: .inl x :: st) h = if x < y then zX d tb_X3_goOn 88 ls st h else zX d tb_X3_goOn 168 ls st h := ux_ic_ge rfl rfl
theorem u_X3_goOn_88 {d : Nat} {st : List zV} {h : zH} {l0 l1 l2 l4 l5 l6 : Option zV} {x : Int32} : zX d tb_X3_goOn 88 [l0, l1, l2, some (.inl x), l4, l5, l6] st h = zX d tb_X3_goOn 89 [l0, l1, l2, some (.inl x), l4, l5, l6] (.inl x :: st) h := (zX_unf (o := (.iload_n 3, 1, 0, [])) rfl).trans rfl
theorem u_X3_goOn_89 {d : Nat} {st : List zV} {h : zH} {l0 l1 l2 l3 l4 l6 : Option zV} {x : Int32} : zX d tb_X3_goOn 89 [l0, l1, l2, l3, l4, some (.inl x), l6] st h = zX d tb_X3_goOn 91 [l0, l1, l2, l3, l4, some (.inl x), l6] (.inl x :: st) h := (zX_unf (o := (.iload 5, 2, 0, [])) rfl).trans rfl
theorem u_X3_goOn_91 {d : Nat} {ls : zL} {h : zH} {v0 : Int32} {v1 : Int32} : zX d tb_X3_goOn 91 ls [.inl v1, .inl v0] h = (zcall (zP zM) d 82 [.inl v0, .inl v1] h).bind fun q => zX d tb_X3_goOn 94 ls (q.1.toList ++ []) q.2 := ux_callS (as := [.inl v0, .inl v1]) (r := []) rfl (n := 2) rfl rfl rfl rfl (Nat.le_of_ble_eq_true rfl)
theorem u_X3_goOn_94 {d : Nat} {ls : zL} {st : List zV} {h : zH} {x : Int32} : zX d tb_X3_goOn 94 ls (.inl x :: st) h = if x = 0 then zX d tb_X3_goOn 100 ls st h else zX d tb_X3_goOn 97 ls st h := ux_if_eq rfl rfl
theorem u_X3_goOn_97 {d : Nat} {ls : zL} {st : List zV} {h : zH} : zX d tb_X3_goOn 97 ls st h = zX d tb_X3_goOn 162 ls st h := (zX_unf (o := (.goto 65, 3, 0, [])) rfl).trans rfl
theorem u_X3_goOn_100 {d : Nat} {st : List zV} {h : zH} {l1 l2 l3 l4 l5 l6 : Option zV} {x : (Option Nat)} : zX d tb_X3_goOn 100 [some (.inr (.inr x)), l1, l2, l3, l4, l5, l6] st h = zX d tb_X3_goOn 101 [some (.inr (.inr x)), l1, l2, l3, l4, l5, l6] (.inr (.inr x) :: st) h := (zX_unf (o := (.aload_n 0, 1, 0, [])) rfl).trans rfl
theorem u_X3_goOn_101 {d : Nat} {ls : zL} {st : List zV} {h : zH} {a : Nat} : zX d tb_X3_goOn 101 ls (.inr (.inr (some a)) :: st) h = if 3 = (zk h a).1 then zX d tb_X3_goOn 104 ls (.inr (.inr (zr h a 3)) :: st) h else none := (ux_getr (t := [(3, 3, 0, "", "")]) rfl).trans (zfb_1 _ _)
theorem u_X3_goOn_104 {d : Nat} {st : List zV} {h : zH} {l0 l1 l3 l4 l5 l6 : Option zV} {x : Int32} : zX d tb_X3_goOn 104 [l0, l1, some (.inl x), l3, l4, l5, l6] st h = zX d tb_X3_goOn 105 [l0, l1, some (.inl x), l3, l4, l5, l6] (.inl x :: st) h := (zX_unf (o := (.iload_n 2, 1, 0, [])) rfl).trans rfl
theorem u_X3_goOn_105 {d : Nat} {ls : zL} {st : List zV} {h : zH} : zX d tb_X3_goOn 105 ls st h = zX d tb_X3_goOn 106 ls (.inl 1 :: st) h := (zX_unf (o := (.iconst 1, 1, 0, [])) rfl).trans rfl
theorem u_X3_goOn_106 {d : Nat} {ls : zL} {st : List zV} {h : zH} {x y : Int32} : zX d tb_X3_goOn 106 ls (.inl y :: .inl x :: st) h = zX d tb_X3_goOn 107 ls (.inl (x + y) :: st) h := (zX_unf (o := (.iadd, 1, 0, [])) rfl).trans rfl
theorem u_X3_goOn_107 {d : Nat} {ls : zL} {st : List zV} {h : zH} {a : Nat} {i : Int32} : zX d tb_X3_goOn 107 ls (.inl i :: .inr (.inr (some a)) :: st) h = if 13 ≤ (zk h a).1 ∧ (zk h a).1 ≤ 15 then (zix i (zk h a).2).bind fun j => zX d tb_X3_goOn 108 ls (.inr (.inr (zr h a j)) :: st) h else none := ux_aald rfl
theorem u_X3_goOn_108 {d : Nat} {st : List zV} {h : zH} {l0 l1 l2 l3 l4 l5 l6 : Option zV} {x : (Option Nat)} : zX d tb_X3_goOn 108 [l0, l1, l2, l3, l4, l5, l6] (.inr (.inr x) :: st) h = zX d tb_X3_goOn 110 [l0, l1, l2, l3, l4, zcl l5, some (.inr (.inr x))] st h := (zX_unf (o := (.astore 6, 2, 0, [])) rfl).trans rfl
theorem u_X3_goOn_110 {d : Nat} {st : List zV} {h : zH} {l0 l1 l2 l3 l4 l5 : Option zV} {x : (Option Nat)} : zX d tb_X3_goOn 110 [l0, l1, l2, l3, l4, l5, some (.inr (.inr x))] st h = zX d tb_X3_goOn 112 [l0, l1, l2, l3, l4, l5, some (.inr (.inr x))] (.inr (.inr x) :: st) h := (zX_unf (o := (.aload 6, 2, 0, [])) rfl).trans rfl
theorem u_X3_goOn_112 {d : Nat} {st : List zV} {h : zH} {l0 l1 l2 l3 l5 l6 : Option zV} {x : (Option Nat)} : zX d tb_X3_goOn 112 [l0, l1, l2, l3, some (.inr (.inr x)), l5, l6] st h = zX d tb_X3_goOn 114 [l0, l1, l2, l3, some (.inr (.inr x)), l5, l6] (.inr (.inr x) :: st) h := (zX_unf (o := (.aload 4, 2, 0, [])) rfl).trans rfl
theorem u_X3_goOn_114 {d : Nat} {ls : zL} {h : zH} {a : Nat} {v0 : (Option Nat)} : zX d tb_X3_goOn 114 ls [.inr (.inr v0), .inr (.inr (some a))] h = if 4 = (zk h a).1 then (zcall (zP zM) d 20 [.inr (.inr (some a)), .inr (.inr v0)] h).bind (fun q => zX d tb_X3_goOn 117 ls (q.1.toList ++ []) q.2) else none := (ux_callV (t := [(4, 20, 0, "", "")]) (as := [.inr (.inr v0)]) (r := []) rfl (n := 1) rfl rfl rfl (Nat.le_of_ble_eq_true rfl)).trans (zfb_1 _ _)
theorem u_X3_goOn_117 {d : Nat} {st : List zV} {h : zH} {l0 l1 l2 l3 l4 l5 : Option zV} {x : (Option Nat)} : zX d tb_X3_goOn 117 [l0, l1, l2, l3, l4, l5, some (.inr (.inr x))] st h = zX d tb_X3_goOn 119 [l0, l1, l2, l3, l4, l5, some (.inr (.inr x))] (.inr (.inr x) :: st) h := (zX_unf (o := (.aload 6, 2, 0, [])) rfl).trans rfl
theorem u_X3_goOn_119 {d : Nat} {st : List zV} {h : zH} {l0 l2 l3 l4 l5 l6 : Option zV} {x : (Option Nat)} : zX d tb_X3_goOn 119 [l0, some (.inr (.inr x)), l2, l3, l4, l5, l6] st h = zX d tb_X3_goOn 120 [l0, some (.inr (.inr x)), l2, l3, l4, l5, l6] (.inr (.inr x) :: st) h := (zX_unf (o := (.aload_n 1, 1, 0, [])) rfl).trans rfl
theorem u_X3_goOn_120 {d : Nat} {st : List zV} {h : zH} {l0 l1 l2 l3 l4 l6 : Option zV} {x : Int32} : zX d tb_X3_goOn 120 [l0, l1, l2, l3, l4, some (.inl x), l6] st h = zX d tb_X3_goOn 122 [l0, l1, l2, l3, l4, some (.inl x), l6] (.inl x :: st) h := (zX_unf (o := (.iload 5, 2, 0, [])) rfl).trans rfl
theorem u_X3_goOn_122 {d : Nat} {ls : zL} {h : zH} {a : Nat} {v0 : Int32} {r0 : zV} : zX d tb_X3_goOn 122 ls [.inl v0, .inr (.inr (some a)), r0] h = if 1 = (zk h a).1 then (zcall (zP zM) d 6 [.inr (.inr (some a)), .inl v0] h).bind (fun q => zX d tb_X3_goOn 125 ls (q.1.toList ++ [r0]) q.2) else none := (ux_callV (t := [(1, 6, 0, "", "")]) (as := [.inl v0]) (r := [r0]) rfl (n := 1) rfl rfl rfl (Nat.le_of_ble_eq_true rfl)).trans (zfb_1 _ _)
theorem u_X3_goOn_125 {d : Nat} {ls : zL} {st : List zV} {h : zH} : zX d tb_X3_goOn 125 ls st h = zX d tb_X3_goOn 126 ls (.inl 1 :: st) h := (zX_unf (o := (.iconst 1, 1, 0, [])) rfl).trans rfl
theorem u_X3_goOn_126 {d : Nat} {ls : zL} {h : zH} {a : Nat} {v0 : (Option Nat)} {v1 : Int32} : zX d tb_X3_goOn 126 ls [.inl v1, .inr (.inr v0), .inr (.inr (some a))] h = if 4 = (zk h a).1 then (zcall (zP zM) d 21 [.inr (.inr (some a)), .inr (.inr v0), .inl v1] h).bind (fun q => zX d tb_X3_goOn 129 ls (q.1.toList ++ []) q.2) else none := (ux_callV (t := [(4, 21, 0, "", "")]) (as := [.inr (.inr v0), .inl v1]) (r := []) rfl (n := 2) rfl rfl rfl (Nat.le_of_ble_eq_true rfl)).trans (zfb_1 _ _)
theorem u_X3_goOn_129 {d : Nat} {st : List zV} {h : zH} {l0 l1 l2 l3 l4 l5 : Option zV} {x : (Option Nat)} : zX d tb_X3_goOn 129 [l0, l1, l2, l3, l4, l5, some (.inr (.inr x))] st h = zX d tb_X3_goOn 131 [l0, l1, l2, l3, l4, l5, some (.inr (.inr x))] (.inr (.inr x) :: st) h := (zX_unf (o := (.aload 6, 2, 0, [])) rfl).trans rfl
theorem u_X3_goOn_131 {d : Nat} {ls : zL} {st : List zV} {h : zH} {a : Nat} : zX d tb_X3_goOn 131 ls (.inr (.inr (some a)) :: st) h = if 4 = (zk h a).1 then zX d tb_X3_goOn 134 ls (.inl (zi h a 4) :: st) h else none := (ux_get (t := [(4, 4, 0, "", "")]) rfl (by decide)).trans (zfb_1 _ _)
theorem u_X3_goOn_134 {d : Nat} {ls : zL} {st : List zV} {h : zH} {x : Int32} : zX d tb_X3_goOn 134 ls (.inl x :: st) h = if x = 0 then zX d tb_X3_goOn 140 ls st h else zX d tb_X3_goOn 137 ls st h := ux_if_eq rfl rfl
theorem u_X3_goOn_137 {d : Nat} {ls : zL} {st : List zV} {h : zH} : zX d tb_X3_goOn 137 ls st h = zX d tb_X3_goOn 162 ls st h := (zX_unf (o := (.goto 25, 3, 0, [])) rfl).trans rfl
theorem u_X3_goOn_140 {d : Nat} {st : List zV} {h : zH} {l1 l2 l3 l4 l5 l6 : Option zV} {x : (Option Nat)} : zX d tb_X3_goOn 140 [some (.inr (.inr x)), l1, l2, l3, l4, l5, l6] st h = zX d tb_X3_goOn 141 [some (.inr (.inr x)), l1, l2, l3, l4, l5, l6] (.inr (.inr x) :: st) h := (zX_unf (o := (.aload_n 0, 1, 0, [])) rfl).trans rfl
theorem u_X3_goOn_141 {d : Nat} {ls : zL} {st : List zV} {h : zH} {a : Nat} : zX d tb_X3_goOn 141 ls (.inr (.inr (some a)) :: st) h = if 3 = (zk h a).1 then zX d tb_X3_goOn 144 ls (.inr (.inr (zr h a 2)) :: st) h else none := (ux_getr (t := [(3, 2, 0, "", "")]) rfl).trans (zfb_1 _ _)
theorem u_X3_goOn_144 {d : Nat} {st : List zV} {h : zH} {l0 l1 l3 l4 l5 l6 : Option zV} {x : Int32} : zX d tb_X3_goOn 144 [l0, l1, some (.inl x), l3, l4, l5, l6] st h = zX d tb_X3_goOn 145 [l0, l1, some (.inl x), l3, l4, l5, l6] (.inl x :: st) h := (zX_unf (o := (.iload_n 2, 1, 0, [])) rfl).trans rfl
theorem u_X3_goOn_145 {d : Nat} {st : List zV} {h : zH} {l0 l1 l2 l3 l4 l6 : Option zV} {x : Int32} : zX d tb_X3_goOn 145 [l0, l1, l2, l3, l4, some (.inl x), l6] st h = zX d tb_X3_goOn 147 [l0, l1, l2, l3, l4, some (.inl x), l6] (.inl x :: st) h := (zX_unf (o := (.iload 5, 2, 0, [])) rfl).trans rfl
theorem u_X3_goOn_147 {d : Nat} {ls : zL} {st : List zV} {h : zH} {a : Nat} {i v : Int32} : zX d tb_X3_goOn 147 ls (.inl v :: .inl i :: .inr (.inr (some a)) :: st) h = if (zk h a).1 = 12 then (zix i (zk h a).2).bind fun j => zX d tb_X3_goOn 148 ls st (zwI h a j v) else none := ux_ast rfl
theorem u_X3_goOn_148 {d : Nat} {st : List zV} {h : zH} {l1 l2 l3 l4 l5 l6 : Option zV} {x : (Option Nat)} : zX d tb_X3_goOn 148 [some (.inr (.inr x)), l1, l2, l3, l4, l5, l6] st h = zX d tb_X3_goOn 149 [some (.inr (.inr x)), l1, l2, l3, l4, l5, l6] (.inr (.inr x) :: st) h := (zX_unf (o := (.aload_n 0, 1, 0, [])) rfl).trans rfl
theorem u_X3_goOn_149 {d : Nat} {st : List zV} {h : zH} {l0 l2 l3 l4 l5 l6 : Option zV} {x : (Option Nat)} : zX d tb_X3_goOn 149 [l0, some (.inr (.inr x)), l2, l3, l4, l5, l6] st h = zX d tb_X3_goOn 150 [l0, some (.inr (.inr x)), l2, l3, l4, l5, l6] (.inr (.inr x) :: st) h := (zX_unf (o := (.aload_n 1, 1, 0, [])) rfl).trans rfl
theorem u_X3_goOn_150 {d : Nat} {st : List zV} {h : zH} {l0 l1 l3 l4 l5 l6 : Option zV} {x : Int32} : zX d tb_X3_goOn 150 [l0, l1, some (.inl x), l3, l4, l5, l6] st h = zX d tb_X3_goOn 151 [l0, l1, some (.inl x), l3, l4, l5, l6] (.inl x :: st) h := (zX_unf (o := (.iload_n 2, 1, 0, [])) rfl).trans rfl
theorem u_X3_goOn_151 {d : Nat} {ls : zL} {st : List zV} {h : zH} : zX d tb_X3_goOn 151 ls st h = zX d tb_X3_goOn 152 ls (.inl 1 :: st) h := (zX_unf (o := (.iconst 1, 1, 0, [])) rfl).trans rfl
theorem u_X3_goOn_152 {d : Nat} {ls : zL} {st : List zV} {h : zH} {x y : Int32} : zX d tb_X3_goOn 152 ls (.inl y :: .inl x :: st) h = zX d tb_X3_goOn 153 ls (.inl (x + y) :: st) h := (zX_unf (o := (.iadd, 1, 0, [])) rfl).trans rfl
theorem u_X3_goOn_153 {d : Nat} {st : List zV} {h : zH} {l0 l1 l2 l4 l5 l6 : Option zV} {x : Int32} : zX d tb_X3_goOn 153 [l0, l1, l2, some (.inl x), l4, l5, l6] st h = zX d tb_X3_goOn 154 [l0, l1, l2, some (.inl x), l4, l5, l6] (.inl x :: st) h := (zX_unf (o := (.iload_n 3, 1, 0, [])) rfl).trans rfl
theorem u_X3_goOn_154 {d : Nat} {ls : zL} {st : List zV} {h : zH} : zX d tb_X3_goOn 154 ls st h = zX d tb_X3_goOn 155 ls (.inl 1 :: st) h := (zX_unf (o := (.iconst 1, 1, 0, [])) rfl).trans rfl
theorem u_X3_goOn_155 {d : Nat} {st : List zV} {h : zH} {l0 l1 l2 l3 l4 l6 : Option zV} {x : Int32} : zX d tb_X3_goOn 155 [l0, l1, l2, l3, l4, some (.inl x), l6] st h = zX d tb_X3_goOn 157 [l0, l1, l2, l3, l4, some (.inl x), l6] (.inl x :: st) h := (zX_unf (o := (.iload 5, 2, 0, [])) rfl).trans rfl
theorem u_X3_goOn_157 {d : Nat} {ls : zL} {st : List zV} {h : zH} {x y : Int32} : zX d tb_X3_goOn 157 ls (.inl y :: .inl x :: st) h = zX d tb_X3_goOn 158 ls (.inl (x <<< (y &&& 31)) :: st) h := (zX_unf (o := (.ishl, 1, 0, [])) rfl).trans rfl
theorem u_X3_goOn_158 {d : Nat} {ls : zL} {st : List zV} {h : zH} {x y : Int32} : zX d tb_X3_goOn 158 ls (.inl y :: .inl x :: st) h = zX d tb_X3_goOn 159 ls (.inl (x ||| y) :: st) h := (zX_unf (o := (.ior, 1, 0, [])) rfl).trans rfl
theorem u_X3_goOn_159 {d : Nat} {ls : zL} {h : zH} {a : Nat} {v0 : (Option Nat)} {v1 : Int32} {v2 : Int32} : zX d tb_X3_goOn 159 ls [.inl v2, .inl v1, .inr (.inr v0), .inr (.inr (some a))] h = if 3 = (zk h a).1 then (zcall (zP zM) d 17 [.inr (.inr (some a)), .inr (.inr v0), .inl v1, .inl v2] h).bind (fun q => zX d tb_X3_goOn 162 ls (q.1.toList ++ []) q.2) else none := (ux_callV (t := [(3, 17, 0, "", "")]) (as := [.inr (.inr v0), .inl v1, .inl v2]) (r := []) rfl (n := 3) rfl rfl rfl (Nat.le_of_ble_eq_true rfl)).trans (zfb_1 _ _)
theorem u_X3_goOn_162 {d : Nat} {st : List zV} {h : zH} {l0 l1 l2 l3 l4 l6 : Option zV} {x : Int32} : zX d tb_X3_goOn 162 [l0, l1, l2, l3, l4, some (.inl x), l6] st h = zX d tb_X3_goOn 165 [l0, l1, l2, l3, zcl l4, some (.inl (x + 1)), l6] st h := (zX_unf (o := (.iinc 5 1, 3, 0, [])) rfl).trans rfl
theorem u_X3_goOn_165 {d : Nat} {ls : zL} {st : List zV} {h : zH} : zX d tb_X3_goOn 165 ls st h = zX d tb_X3_goOn 79 ls st h := (zX_unf (o := (.goto (-86), 3, 0, [])) rfl).trans rfl
theorem u_X3_goOn_168 {d : Nat} {ls : zL} {h : zH} : zX d tb_X3_goOn 168 ls [] h = some (none, h) := (zX_unf (o := (.return_, 1, 0, [])) rfl).trans rfl
theorem e_X4_init {d : Nat} {h : zH} {a : Nat} : zcall (zP zM) (d + 1) 18 [.inr (.inr (some a))] h = zX d tb_X4_init 0 [some (.inr (.inr (some a)))] [] h := (zcall_succ _ _ _ _ _).trans (if_pos (Nat.le_of_ble_eq_true rfl))
theorem u_X4_init_0 {d : Nat} {st : List zV} {h : zH} {x : (Option Nat)} : zX d tb_X4_init 0 [some (.inr (.inr x))] st h = zX d tb_X4_init 1 [some (.inr (.inr x))] (.inr (.inr x) :: st) h := (zX_unf (o := (.aload_n 0, 1, 0, [])) rfl).trans rfl
theorem u_X4_init_1 {d : Nat} {ls : zL} {h : zH} {a : Nat} : zX d tb_X4_init 1 ls [.inr (.inr (some a))] h = zX d tb_X4_init 4 ls [] h := (zX_unf (o := (.invokespecial 1, 3, (-1), [])) rfl).trans rfl
theorem u_X4_init_4 {d : Nat} {st : List zV} {h : zH} {x : (Option Nat)} : zX d tb_X4_init 4 [some (.inr (.inr x))] st h = zX d tb_X4_init 5 [some (.inr (.inr x))] (.inr (.inr x) :: st) h := (zX_unf (o := (.aload_n 0, 1, 0, [])) rfl).trans rfl
theorem u_X4_init_5 {d : Nat} {ls : zL} {st : List zV} {h : zH} : zX d tb_X4_init 5 ls st h = zX d tb_X4_init 6 ls (.inl 0 :: st) h := (zX_unf (o := (.iconst 0, 1, 0, [])) rfl).trans rfl
theorem u_X4_init_6 {d : Nat} {ls : zL} {st : List zV} {h : zH} {a : Nat} {v : Int32} : zX d tb_X4_init 6 ls (.inl v :: .inr (.inr (some a)) :: st) h = if 4 = (zk h a).1 then zX d tb_X4_init 9 ls st (zwI h a 0 v) else none := (ux_put (t := [(4, 0, 0, "", "")]) rfl).trans (zfb_1 _ _)
theorem u_X4_init_9 {d : Nat} {st : List zV} {h : zH} {x : (Option Nat)} : zX d tb_X4_init 9 [some (.inr (.inr x))] st h = zX d tb_X4_init 10 [some (.inr (.inr x))] (.inr (.inr x) :: st) h := (zX_unf (o := (.aload_n 0, 1, 0, [])) rfl).trans rfl
theorem u_X4_init_10 {d : Nat} {ls : zL} {st : List zV} {h : zH} : zX d tb_X4_init 10 ls st h = zX d tb_X4_init 11 ls (.inl 0 :: st) h := (zX_unf (o := (.iconst 0, 1, 0, [])) rfl).trans rfl
theorem u_X4_init_11 {d : Nat} {ls : zL} {st : List zV} {h : zH} {a : Nat} {v : Int32} : zX d tb_X4_init 11 ls (.inl v :: .inr (.inr (some a)) :: st) h = if 4 = (zk h a).1 then zX d tb_X4_init 14 ls st (zwI h a 1 v) else none := (ux_put (t := [(4, 1, 0, "", "")]) rfl).trans (zfb_1 _ _)
theorem u_X4_init_14 {d : Nat} {st : List zV} {h : zH} {x : (Option Nat)} : zX d tb_X4_init 14 [some (.inr (.inr x))] st h = zX d tb_X4_init 15 [some (.inr (.inr x))] (.inr (.inr x) :: st) h := (zX_unf (o := (.aload_n 0, 1, 0, [])) rfl).trans rfl
theorem u_X4_init_15 {d : Nat} {ls : zL} {st : List zV} {h : zH} : zX d tb_X4_init 15 ls st h = zX d tb_X4_init 16 ls (.inl 0 :: st) h := (zX_unf (o := (.iconst 0, 1, 0, [])) rfl).trans rfl
theorem u_X4_init_16 {d : Nat} {ls : zL} {st : List zV} {h : zH} {a : Nat} {v : Int32} : zX d tb_X4_init 16 ls (.inl v :: .inr (.inr (some a)) :: st) h = if 4 = (zk h a).1 then zX d tb_X4_init 19 ls st (zwI h a 2 v) else none := (ux_put (t := [(4, 2, 0, "", "")]) rfl).trans (zfb_1 _ _)
theorem u_X4_init_19 {d : Nat} {st : List zV} {h : zH} {x : (Option Nat)} : zX d tb_X4_init 19 [some (.inr (.inr x))] st h = zX d tb_X4_init 20 [some (.inr (.inr x))] (.inr (.inr x) :: st) h := (zX_unf (o := (.aload_n 0, 1, 0, [])) rfl).trans rfl
theorem u_X4_init_20 {d : Nat} {ls : zL} {st : List zV} {h : zH} : zX d tb_X4_init 20 ls st h = zX d tb_X4_init 21 ls (.inl 0 :: st) h := (zX_unf (o := (.iconst 0, 1, 0, [])) rfl).trans rfl
theorem u_X4_init_21 {d : Nat} {ls : zL} {st : List zV} {h : zH} {a : Nat} {v : Int32} : zX d tb_X4_init 21 ls (.inl v :: .inr (.inr (some a)) :: st) h = if 4 = (zk h a).1 then zX d tb_X4_init 24 ls st (zwI h a 3 v) else none := (ux_put (t := [(4, 3, 0, "", "")]) rfl).trans (zfb_1 _ _)
theorem u_X4_init_24 {d : Nat} {st : List zV} {h : zH} {x : (Option Nat)} : zX d tb_X4_init 24 [some (.inr (.inr x))] st h = zX d tb_X4_init 25 [some (.inr (.inr x))] (.inr (.inr x) :: st) h := (zX_unf (o := (.aload_n 0, 1, 0, [])) rfl).trans rfl
theorem u_X4_init_25 {d : Nat} {ls : zL} {st : List zV} {h : zH} : zX d tb_X4_init 25 ls st h = zX d tb_X4_init 26 ls (.inl 0 :: st) h := (zX_unf (o := (.iconst 0, 1, 0, [])) rfl).trans rfl
theorem u_X4_init_26 {d : Nat} {ls : zL} {st : List zV} {h : zH} {a : Nat} {v : Int32} : zX d tb_X4_init 26 ls (.inl v :: .inr (.inr (some a)) :: st) h = if 4 = (zk h a).1 then (if v = 0 ∨ v = 1 then zX d tb_X4_init 29 ls st (zwI h a 4 v) else none) else none := (ux_putz (t := [(4, 4, 0, "", "")]) rfl).trans (zfb_1 _ _)
theorem u_X4_init_29 {d : Nat} {st : List zV} {h : zH} {x : (Option Nat)} : zX d tb_X4_init 29 [some (.inr (.inr x))] st h = zX d tb_X4_init 30 [some (.inr (.inr x))] (.inr (.inr x) :: st) h := (zX_unf (o := (.aload_n 0, 1, 0, [])) rfl).trans rfl
theorem u_X4_init_30 {d : Nat} {ls : zL} {st : List zV} {h : zH} : zX d tb_X4_init 30 ls st h = zX d tb_X4_init 31 ls (.inl 0 :: st) h := (zX_unf (o := (.iconst 0, 1, 0, [])) rfl).trans rfl
theorem u_X4_init_31 {d : Nat} {ls : zL} {st : List zV} {h : zH} {a : Nat} {v : Int32} : zX d tb_X4_init 31 ls (.inl v :: .inr (.inr (some a)) :: st) h = if 4 = (zk h a).1 then zX d tb_X4_init 34 ls st (zwI h a 5 v) else none := (ux_put (t := [(4, 5, 0, "", "")]) rfl).trans (zfb_1 _ _)
theorem u_X4_init_34 {d : Nat} {st : List zV} {h : zH} {x : (Option Nat)} : zX d tb_X4_init 34 [some (.inr (.inr x))] st h = zX d tb_X4_init 35 [some (.inr (.inr x))] (.inr (.inr x) :: st) h := (zX_unf (o := (.aload_n 0, 1, 0, [])) rfl).trans rfl
theorem u_X4_init_35 {d : Nat} {ls : zL} {st : List zV} {h : zH} : zX d tb_X4_init 35 ls st h = zX d tb_X4_init 36 ls (.inl 0 :: st) h := (zX_unf (o := (.iconst 0, 1, 0, [])) rfl).trans rfl
theorem u_X4_init_36 {d : Nat} {ls : zL} {st : List zV} {h : zH} {a : Nat} {v : Int32} : zX d tb_X4_init 36 ls (.inl v :: .inr (.inr (some a)) :: st) h = if 4 = (zk h a).1 then zX d tb_X4_init 39 ls st (zwI h a 6 v) else none := (ux_put (t := [(4, 6, 0, "", "")]) rfl).trans (zfb_1 _ _)
theorem u_X4_init_39 {d : Nat} {st : List zV} {h : zH} {x : (Option Nat)} : zX d tb_X4_init 39 [some (.inr (.inr x))] st h = zX d tb_X4_init 40 [some (.inr (.inr x))] (.inr (.inr x) :: st) h := (zX_unf (o := (.aload_n 0, 1, 0, [])) rfl).trans rfl
theorem u_X4_init_40 {d : Nat} {ls : zL} {st : List zV} {h : zH} : zX d tb_X4_init 40 ls st h = zX d tb_X4_init 41 ls (.inl 0 :: st) h := (zX_unf (o := (.iconst 0, 1, 0, [])) rfl).trans rfl
theorem u_X4_init_41 {d : Nat} {ls : zL} {st : List zV} {h : zH} {a : Nat} {v : Int32} : zX d tb_X4_init 41 ls (.inl v :: .inr (.inr (some a)) :: st) h = if 4 = (zk h a).1 then zX d tb_X4_init 44 ls st (zwI h a 7 v) else none := (ux_put (t := [(4, 7, 0, "", "")]) rfl).trans (zfb_1 _ _)
theorem u_X4_init_44 {d : Nat} {ls : zL} {h : zH} : zX d tb_X4_init 44 ls [] h = some (none, h) := (zX_unf (o := (.return_, 1, 0, [])) rfl).trans rfl
theorem e_X4_begin {d : Nat} {h : zH} {v0 : Int32} {v1 : Int32} {v2 : Int32} {a : Nat} : zcall (zP zM) (d + 1) 19 [.inr (.inr (some a)), .inl v0, .inl v1, .inl v2] h = zX d tb_X4_begin 0 [some (.inr (.inr (some a))), some (.inl v0), some (.inl v1), some (.inl v2)] [] h := (zcall_succ _ _ _ _ _).trans (if_pos (Nat.le_of_ble_eq_true rfl))
theorem u_X4_begin_0 {d : Nat} {st : List zV} {h : zH} {l1 l2 l3 : Option zV} {x : (Option Nat)} : zX d tb_X4_begin 0 [some (.inr (.inr x)), l1, l2, l3] st h = zX d tb_X4_begin 1 [some (.inr (.inr x)), l1, l2, l3] (.inr (.inr x) :: st) h := (zX_unf (o := (.aload_n 0, 1, 0, [])) rfl).trans rfl
theorem u_X4_begin_1 {d : Nat} {st : List zV} {h : zH} {l0 l2 l3 : Option zV} {x : Int32} : zX d tb_X4_begin 1 [l0, some (.inl x), l2, l3] st h = zX d tb_X4_begin 2 [l0, some (.inl x), l2, l3] (.inl x :: st) h := (zX_unf (o := (.iload_n 1, 1, 0, [])) rfl).trans rfl
theorem u_X4_begin_2 {d : Nat} {ls : zL} {st : List zV} {h : zH} {a : Nat} {v : Int32} : zX d tb_X4_begin 2 ls (.inl v :: .inr (.inr (some a)) :: st) h = if 4 = (zk h a).1 then zX d tb_X4_begin 5 ls st (zwI h a 5 v) else none := (ux_put (t := [(4, 5, 0, "", "")]) rfl).trans (zfb_1 _ _)
theorem u_X4_begin_5 {d : Nat} {st : List zV} {h : zH} {l1 l2 l3 : Option zV} {x : (Option Nat)} : zX d tb_X4_begin 5 [some (.inr (.inr x)), l1, l2, l3] st h = zX d tb_X4_begin 6 [some (.inr (.inr x)), l1, l2, l3] (.inr (.inr x) :: st) h := (zX_unf (o := (.aload_n 0, 1, 0, [])) rfl).trans rfl
theorem u_X4_begin_6 {d : Nat} {st : List zV} {h : zH} {l0 l1 l3 : Option zV} {x : Int32} : zX d tb_X4_begin 6 [l0, l1, some (.inl x), l3] st h = zX d tb_X4_begin 7 [l0, l1, some (.inl x), l3] (.inl x :: st) h := (zX_unf (o := (.iload_n 2, 1, 0, [])) rfl).trans rfl
theorem u_X4_begin_7 {d : Nat} {ls : zL} {st : List zV} {h : zH} {a : Nat} {v : Int32} : zX d tb_X4_begin 7 ls (.inl v :: .inr (.inr (some a)) :: st) h = if 4 = (zk h a).1 then zX d tb_X4_begin 10 ls st (zwI h a 3 v) else none := (ux_put (t := [(4, 3, 0, "", "")]) rfl).trans (zfb_1 _ _)
theorem u_X4_begin_10 {d : Nat} {st : List zV} {h : zH} {l1 l2 l3 : Option zV} {x : (Option Nat)} : zX d tb_X4_begin 10 [some (.inr (.inr x)), l1, l2, l3] st h = zX d tb_X4_begin 11 [some (.inr (.inr x)), l1, l2, l3] (.inr (.inr x) :: st) h := (zX_unf (o := (.aload_n 0, 1, 0, [])) rfl).trans rfl
theorem u_X4_begin_11 {d : Nat} {st : List zV} {h : zH} {l0 l1 l2 : Option zV} {x : Int32} : zX d tb_X4_begin 11 [l0, l1, l2, some (.inl x)] st h = zX d tb_X4_begin 12 [l0, l1, l2, some (.inl x)] (.inl x :: st) h := (zX_unf (o := (.iload_n 3, 1, 0, [])) rfl).trans rfl
theorem u_X4_begin_12 {d : Nat} {ls : zL} {st : List zV} {h : zH} {a : Nat} {v : Int32} : zX d tb_X4_begin 12 ls (.inl v :: .inr (.inr (some a)) :: st) h = if 4 = (zk h a).1 then zX d tb_X4_begin 15 ls st (zwI h a 6 v) else none := (ux_put (t := [(4, 6, 0, "", "")]) rfl).trans (zfb_1 _ _)
theorem u_X4_begin_15 {d : Nat} {st : List zV} {h : zH} {l1 l2 l3 : Option zV} {x : (Option Nat)} : zX d tb_X4_begin 15 [some (.inr (.inr x)), l1, l2, l3] st h = zX d tb_X4_begin 16 [some (.inr (.inr x)), l1, l2, l3] (.inr (.inr x) :: st) h := (zX_unf (o := (.aload_n 0, 1, 0, [])) rfl).trans rfl
theorem u_X4_begin_16 {d : Nat} {ls : zL} {st : List zV} {h : zH} : zX d tb_X4_begin 16 ls st h = zX d tb_X4_begin 17 ls (.inl 0 :: st) h := (zX_unf (o := (.iconst 0, 1, 0, [])) rfl).trans rfl
theorem u_X4_begin_17 {d : Nat} {ls : zL} {st : List zV} {h : zH} {a : Nat} {v : Int32} : zX d tb_X4_begin 17 ls (.inl v :: .inr (.inr (some a)) :: st) h = if 4 = (zk h a).1 then zX d tb_X4_begin 20 ls st (zwI h a 0 v) else none := (ux_put (t := [(4, 0, 0, "", "")]) rfl).trans (zfb_1 _ _)
theorem u_X4_begin_20 {d : Nat} {st : List zV} {h : zH} {l1 l2 l3 : Option zV} {x : (Option Nat)} : zX d tb_X4_begin 20 [some (.inr (.inr x)), l1, l2, l3] st h = zX d tb_X4_begin 21 [some (.inr (.inr x)), l1, l2, l3] (.inr (.inr x) :: st) h := (zX_unf (o := (.aload_n 0, 1, 0, [])) rfl).trans rfl
theorem u_X4_begin_21 {d : Nat} {ls : zL} {st : List zV} {h : zH} : zX d tb_X4_begin 21 ls st h = zX d tb_X4_begin 22 ls (.inl 0 :: st) h := (zX_unf (o := (.iconst 0, 1, 0, [])) rfl).trans rfl
theorem u_X4_begin_22 {d : Nat} {ls : zL} {st : List zV} {h : zH} {a : Nat} {v : Int32} : zX d tb_X4_begin 22 ls (.inl v :: .inr (.inr (some a)) :: st) h = if 4 = (zk h a).1 then zX d tb_X4_begin 25 ls st (zwI h a 1 v) else none := (ux_put (t := [(4, 1, 0, "", "")]) rfl).trans (zfb_1 _ _)
theorem u_X4_begin_25 {d : Nat} {st : List zV} {h : zH} {l1 l2 l3 : Option zV} {x : (Option Nat)} : zX d tb_X4_begin 25 [some (.inr (.inr x)), l1, l2, l3] st h = zX d tb_X4_begin 26 [some (.inr (.inr x)), l1, l2, l3] (.inr (.inr x) :: st) h := (zX_unf (o := (.aload_n 0, 1, 0, [])) rfl).trans rfl
theorem u_X4_begin_26 {d : Nat} {ls : zL} {st : List zV} {h : zH} : zX d tb_X4_begin 26 ls st h = zX d tb_X4_begin 27 ls (.inl 0 :: st) h := (zX_unf (o := (.iconst 0, 1, 0, [])) rfl).trans rfl
theorem u_X4_begin_27 {d : Nat} {ls : zL} {st : List zV} {h : zH} {a : Nat} {v : Int32} : zX d tb_X4_begin 27 ls (.inl v :: .inr (.inr (some a)) :: st) h = if 4 = (zk h a).1 then zX d tb_X4_begin 30 ls st (zwI h a 2 v) else none := (ux_put (t := [(4, 2, 0, "", "")]) rfl).trans (zfb_1 _ _)
theorem u_X4_begin_30 {d : Nat} {st : List zV} {h : zH} {l1 l2 l3 : Option zV} {x : (Option Nat)} : zX d tb_X4_begin 30 [some (.inr (.inr x)), l1, l2, l3] st h = zX d tb_X4_begin 31 [some (.inr (.inr x)), l1, l2, l3] (.inr (.inr x) :: st) h := (zX_unf (o := (.aload_n 0, 1, 0, [])) rfl).trans rfl
theorem u_X4_begin_31 {d : Nat} {ls : zL} {st : List zV} {h : zH} : zX d tb_X4_begin 31 ls st h = zX d tb_X4_begin 32 ls (.inl 0 :: st) h := (zX_unf (o := (.iconst 0, 1, 0, [])) rfl).trans rfl
theorem u_X4_begin_32 {d : Nat} {ls : zL} {st : List zV} {h : zH} {a : Nat} {v : Int32} : zX d tb_X4_begin 32 ls (.inl v :: .inr (.inr (some a)) :: st) h = if 4 = (zk h a).1 then zX d tb_X4_begin 35 ls st (zwI h a 7 v) else none := (ux_put (t := [(4, 7, 0, "", "")]) rfl).trans (zfb_1 _ _)
theorem u_X4_begin_35 {d : Nat} {st : List zV} {h : zH} {l1 l2 l3 : Option zV} {x : (Option Nat)} : zX d tb_X4_begin 35 [some (.inr (.inr x)), l1, l2, l3] st h = zX d tb_X4_begin 36 [some (.inr (.inr x)), l1, l2, l3] (.inr (.inr x) :: st) h := (zX_unf (o := (.aload_n 0, 1, 0, [])) rfl).trans rfl
theorem u_X4_begin_36 {d : Nat} {ls : zL} {st : List zV} {h : zH} : zX d tb_X4_begin 36 ls st h = zX d tb_X4_begin 37 ls (.inl 0 :: st) h := (zX_unf (o := (.iconst 0, 1, 0, [])) rfl).trans rfl
theorem u_X4_begin_37 {d : Nat} {ls : zL} {st : List zV} {h : zH} {a : Nat} {v : Int32} : zX d tb_X4_begin 37 ls (.inl v :: .inr (.inr (some a)) :: st) h = if 4 = (zk h a).1 then (if v = 0 ∨ v = 1 then zX d tb_X4_begin 40 ls st (zwI h a 4 v) else none) else none := (ux_putz (t := [(4, 4, 0, "", "")]) rfl).trans (zfb_1 _ _)
theorem u_X4_begin_40 {d : Nat} {ls : zL} {h : zH} : zX d tb_X4_begin 40 ls [] h = some (none, h) := (zX_unf (o := (.return_, 1, 0, [])) rfl).trans rfl
theorem e_X4_takeUp {d : Nat} {h : zH} {v0 : (Option Nat)} {a : Nat} : zcall (zP zM) (d + 1) 20 [.inr (.inr (some a)), .inr (.inr v0)] h = zX d tb_X4_takeUp 0 [some (.inr (.inr (some a))), some (.inr (.inr v0))] [] h := (zcall_succ _ _ _ _ _).trans (if_pos (Nat.le_of_ble_eq_true rfl))
theorem u_X4_takeUp_0 {d : Nat} {st : List zV} {h : zH} {l1 : Option zV} {x : (Option Nat)} : zX d tb_X4_takeUp 0 [some (.inr (.inr x)), l1] st h = zX d tb_X4_takeUp 1 [some (.inr (.inr x)), l1] (.inr (.inr x) :: st) h := (zX_unf (o := (.aload_n 0, 1, 0, [])) rfl).trans rfl
theorem u_X4_takeUp_1 {d : Nat} {st : List zV} {h : zH} {l0 : Option zV} {x : (Option Nat)} : zX d tb_X4_takeUp 1 [l0, some (.inr (.inr x))] st h = zX d tb_X4_takeUp 2 [l0, some (.inr (.inr x))] (.inr (.inr x) :: st) h := (zX_unf (o := (.aload_n 1, 1, 0, [])) rfl).trans rfl
theorem u_X4_takeUp_2 {d : Nat} {ls : zL} {st : List zV} {h : zH} {a : Nat} : zX d tb_X4_takeUp 2 ls (.inr (.inr (some a)) :: st) h = if 4 = (zk h a).1 then zX d tb_X4_takeUp 5 ls (.inl (zi h a 5) :: st) h else none := (ux_get (t := [(4, 5, 0, "", "")]) rfl (by decide)).trans (zfb_1 _ _)
theorem u_X4_takeUp_5 {d : Nat} {ls : zL} {st : List zV} {h : zH} {a : Nat} {v : Int32} : zX d tb_X4_takeUp 5 ls (.inl v :: .inr (.inr (some a)) :: st) h = if 4 = (zk h a).1 then zX d tb_X4_takeUp 8 ls st (zwI h a 5 v) else none := (ux_put (t := [(4, 5, 0, "", "")]) rfl).trans (zfb_1 _ _)
theorem u_X4_takeUp_8 {d : Nat} {st : List zV} {h : zH} {l1 : Option zV} {x : (Option Nat)} : zX d tb_X4_takeUp 8 [some (.inr (.inr x)), l1] st h = zX d tb_X4_takeUp 9 [some (.inr (.inr x)), l1] (.inr (.inr x) :: st) h := (zX_unf (o := (.aload_n 0, 1, 0, [])) rfl).trans rfl
theorem u_X4_takeUp_9 {d : Nat} {st : List zV} {h : zH} {l0 : Option zV} {x : (Option Nat)} : zX d tb_X4_takeUp 9 [l0, some (.inr (.inr x))] st h = zX d tb_X4_takeUp 10 [l0, some (.inr (.inr x))] (.inr (.inr x) :: st) h := (zX_unf (o := (.aload_n 1, 1, 0, [])) rfl).trans rfl
theorem u_X4_takeUp_10 {d : Nat} {ls : zL} {st : List zV} {h : zH} {a : Nat} : zX d tb_X4_takeUp 10 ls (.inr (.inr (some a)) :: st) h = if 4 = (zk h a).1 then zX d tb_X4_takeUp 13 ls (.inl (zi h a 3) :: st) h else none := (ux_get (t := [(4, 3, 0, "", "")]) rfl (by decide)).trans (zfb_1 _ _)
theorem u_X4_takeUp_13 {d : Nat} {ls : zL} {st : List zV} {h : zH} {a : Nat} {v : Int32} : zX d tb_X4_takeUp 13 ls (.inl v :: .inr (.inr (some a)) :: st) h = if 4 = (zk h a).1 then zX d tb_X4_takeUp 16 ls st (zwI h a 3 v) else none := (ux_put (t := [(4, 3, 0, "", "")]) rfl).trans (zfb_1 _ _)
theorem u_X4_takeUp_16 {d : Nat} {st : List zV} {h : zH} {l1 : Option zV} {x : (Option Nat)} : zX d tb_X4_takeUp 16 [some (.inr (.inr x)), l1] st h = zX d tb_X4_takeUp 17 [some (.inr (.inr x)), l1] (.inr (.inr x) :: st) h := (zX_unf (o := (.aload_n 0, 1, 0, [])) rfl).trans rfl
theorem u_X4_takeUp_17 {d : Nat} {st : List zV} {h : zH} {l0 : Option zV} {x : (Option Nat)} : zX d tb_X4_takeUp 17 [l0, some (.inr (.inr x))] st h = zX d tb_X4_takeUp 18 [l0, some (.inr (.inr x))] (.inr (.inr x) :: st) h := (zX_unf (o := (.aload_n 1, 1, 0, [])) rfl).trans rfl
theorem u_X4_takeUp_18 {d : Nat} {ls : zL} {st : List zV} {h : zH} {a : Nat} : zX d tb_X4_takeUp 18 ls (.inr (.inr (some a)) :: st) h = if 4 = (zk h a).1 then zX d tb_X4_takeUp 21 ls (.inl (zi h a 6) :: st) h else none := (ux_get (t := [(4, 6, 0, "", "")]) rfl (by decide)).trans (zfb_1 _ _)
theorem u_X4_takeUp_21 {d : Nat} {ls : zL} {st : List zV} {h : zH} {a : Nat} {v : Int32} : zX d tb_X4_takeUp 21 ls (.inl v :: .inr (.inr (some a)) :: st) h = if 4 = (zk h a).1 then zX d tb_X4_takeUp 24 ls st (zwI h a 6 v) else none := (ux_put (t := [(4, 6, 0, "", "")]) rfl).trans (zfb_1 _ _)
theorem u_X4_takeUp_24 {d : Nat} {st : List zV} {h : zH} {l1 : Option zV} {x : (Option Nat)} : zX d tb_X4_takeUp 24 [some (.inr (.inr x)), l1] st h = zX d tb_X4_takeUp 25 [some (.inr (.inr x)), l1] (.inr (.inr x) :: st) h := (zX_unf (o := (.aload_n 0, 1, 0, [])) rfl).trans rfl
theorem u_X4_takeUp_25 {d : Nat} {st : List zV} {h : zH} {l0 : Option zV} {x : (Option Nat)} : zX d tb_X4_takeUp 25 [l0, some (.inr (.inr x))] st h = zX d tb_X4_takeUp 26 [l0, some (.inr (.inr x))] (.inr (.inr x) :: st) h := (zX_unf (o := (.aload_n 1, 1, 0, [])) rfl).trans rfl
theorem u_X4_takeUp_26 {d : Nat} {ls : zL} {st : List zV} {h : zH} {a : Nat} : zX d tb_X4_takeUp 26 ls (.inr (.inr (some a)) :: st) h = if 4 = (zk h a).1 then zX d tb_X4_takeUp 29 ls (.inl (zi h a 0) :: st) h else none := (ux_get (t := [(4, 0, 0, "", "")]) rfl (by decide)).trans (zfb_1 _ _)
theorem u_X4_takeUp_29 {d : Nat} {ls : zL} {st : List zV} {h : zH} {a : Nat} {v : Int32} : zX d tb_X4_takeUp 29 ls (.inl v :: .inr (.inr (some a)) :: st) h = if 4 = (zk h a).1 then zX d tb_X4_takeUp 32 ls st (zwI h a 0 v) else none := (ux_put (t := [(4, 0, 0, "", "")]) rfl).trans (zfb_1 _ _)
theorem u_X4_takeUp_32 {d : Nat} {st : List zV} {h : zH} {l1 : Option zV} {x : (Option Nat)} : zX d tb_X4_takeUp 32 [some (.inr (.inr x)), l1] st h = zX d tb_X4_takeUp 33 [some (.inr (.inr x)), l1] (.inr (.inr x) :: st) h := (zX_unf (o := (.aload_n 0, 1, 0, [])) rfl).trans rfl
theorem u_X4_takeUp_33 {d : Nat} {st : List zV} {h : zH} {l0 : Option zV} {x : (Option Nat)} : zX d tb_X4_takeUp 33 [l0, some (.inr (.inr x))] st h = zX d tb_X4_takeUp 34 [l0, some (.inr (.inr x))] (.inr (.inr x) :: st) h := (zX_unf (o := (.aload_n 1, 1, 0, [])) rfl).trans rfl
theorem u_X4_takeUp_34 {d : Nat} {ls : zL} {st : List zV} {h : zH} {a : Nat} : zX d tb_X4_takeUp 34 ls (.inr (.inr (some a)) :: st) h = if 4 = (zk h a).1 then zX d tb_X4_takeUp 37 ls (.inl (zi h a 1) :: st) h else none := (ux_get (t := [(4, 1, 0, "", "")]) rfl (by decide)).trans (zfb_1 _ _)
theorem u_X4_takeUp_37 {d : Nat} {ls : zL} {st : List zV} {h : zH} {a : Nat} {v : Int32} : zX d tb_X4_takeUp 37 ls (.inl v :: .inr (.inr (some a)) :: st) h = if 4 = (zk h a).1 then zX d tb_X4_takeUp 40 ls st (zwI h a 1 v) else none := (ux_put (t := [(4, 1, 0, "", "")]) rfl).trans (zfb_1 _ _)
theorem u_X4_takeUp_40 {d : Nat} {st : List zV} {h : zH} {l1 : Option zV} {x : (Option Nat)} : zX d tb_X4_takeUp 40 [some (.inr (.inr x)), l1] st h = zX d tb_X4_takeUp 41 [some (.inr (.inr x)), l1] (.inr (.inr x) :: st) h := (zX_unf (o := (.aload_n 0, 1, 0, [])) rfl).trans rfl
theorem u_X4_takeUp_41 {d : Nat} {st : List zV} {h : zH} {l0 : Option zV} {x : (Option Nat)} : zX d tb_X4_takeUp 41 [l0, some (.inr (.inr x))] st h = zX d tb_X4_takeUp 42 [l0, some (.inr (.inr x))] (.inr (.inr x) :: st) h := (zX_unf (o := (.aload_n 1, 1, 0, [])) rfl).trans rfl
theorem u_X4_takeUp_42 {d : Nat} {ls : zL} {st : List zV} {h : zH} {a : Nat} : zX d tb_X4_takeUp 42 ls (.inr (.inr (some a)) :: st) h = if 4 = (zk h a).1 then zX d tb_X4_takeUp 45 ls (.inl (zi h a 2) :: st) h else none := (ux_get (t := [(4, 2, 0, "", "")]) rfl (by decide)).trans (zfb_1 _ _)
theorem u_X4_takeUp_45 {d : Nat} {ls : zL} {st : List zV} {h : zH} {a : Nat} {v : Int32} : zX d tb_X4_takeUp 45 ls (.inl v :: .inr (.inr (some a)) :: st) h = if 4 = (zk h a).1 then zX d tb_X4_takeUp 48 ls st (zwI h a 2 v) else none := (ux_put (t := [(4, 2, 0, "", "")]) rfl).trans (zfb_1 _ _)
theorem u_X4_takeUp_48 {d : Nat} {st : List zV} {h : zH} {l1 : Option zV} {x : (Option Nat)} : zX d tb_X4_takeUp 48 [some (.inr (.inr x)), l1] st h = zX d tb_X4_takeUp 49 [some (.inr (.inr x)), l1] (.inr (.inr x) :: st) h := (zX_unf (o := (.aload_n 0, 1, 0, [])) rfl).trans rfl
theorem u_X4_takeUp_49 {d : Nat} {st : List zV} {h : zH} {l0 : Option zV} {x : (Option Nat)} : zX d tb_X4_takeUp 49 [l0, some (.inr (.inr x))] st h = zX d tb_X4_takeUp 50 [l0, some (.inr (.inr x))] (.inr (.inr x) :: st) h := (zX_unf (o := (.aload_n 1, 1, 0, [])) rfl).trans rfl
theorem u_X4_takeUp_50 {d : Nat} {ls : zL} {st : List zV} {h : zH} {a : Nat} : zX d tb_X4_takeUp 50 ls (.inr (.inr (some a)) :: st) h = if 4 = (zk h a).1 then zX d tb_X4_takeUp 53 ls (.inl (zi h a 7) :: st) h else none := (ux_get (t := [(4, 7, 0, "", "")]) rfl (by decide)).trans (zfb_1 _ _)
theorem u_X4_takeUp_53 {d : Nat} {ls : zL} {st : List zV} {h : zH} {a : Nat} {v : Int32} : zX d tb_X4_takeUp 53 ls (.inl v :: .inr (.inr (some a)) :: st) h = if 4 = (zk h a).1 then zX d tb_X4_takeUp 56 ls st (zwI h a 7 v) else none := (ux_put (t := [(4, 7, 0, "", "")]) rfl).trans (zfb_1 _ _)
theorem u_X4_takeUp_56 {d : Nat} {st : List zV} {h : zH} {l1 : Option zV} {x : (Option Nat)} : zX d tb_X4_takeUp 56 [some (.inr (.inr x)), l1] st h = zX d tb_X4_takeUp 57 [some (.inr (.inr x)), l1] (.inr (.inr x) :: st) h := (zX_unf (o := (.aload_n 0, 1, 0, [])) rfl).trans rfl
theorem u_X4_takeUp_57 {d : Nat} {st : List zV} {h : zH} {l0 : Option zV} {x : (Option Nat)} : zX d tb_X4_takeUp 57 [l0, some (.inr (.inr x))] st h = zX d tb_X4_takeUp 58 [l0, some (.inr (.inr x))] (.inr (.inr x) :: st) h := (zX_unf (o := (.aload_n 1, 1, 0, [])) rfl).trans rfl
theorem u_X4_takeUp_58 {d : Nat} {ls : zL} {st : List zV} {h : zH} {a : Nat} : zX d tb_X4_takeUp 58 ls (.inr (.inr (some a)) :: st) h = if 4 = (zk h a).1 then zX d tb_X4_takeUp 61 ls (.inl (zi h a 4) :: st) h else none := (ux_get (t := [(4, 4, 0, "", "")]) rfl (by decide)).trans (zfb_1 _ _)
theorem u_X4_takeUp_61 {d : Nat} {ls : zL} {st : List zV} {h : zH} {a : Nat} {v : Int32} : zX d tb_X4_takeUp 61 ls (.inl v :: .inr (.inr (some a)) :: st) h = if 4 = (zk h a).1 then (if v = 0 ∨ v = 1 then zX d tb_X4_takeUp 64 ls st (zwI h a 4 v) else none) else none := (ux_putz (t := [(4, 4, 0, "", "")]) rfl).trans (zfb_1 _ _)
theorem u_X4_takeUp_64 {d : Nat} {ls : zL} {h : zH} : zX d tb_X4_takeUp 64 ls [] h = some (none, h) := (zX_unf (o := (.return_, 1, 0, [])) rfl).trans rfl
theorem e_X4_hear {d : Nat} {h : zH} {v0 : (Option Nat)} {v1 : Int32} {a : Nat} : zcall (zP zM) (d + 1) 21 [.inr (.inr (some a)), .inr (.inr v0), .inl v1] h = zX d tb_X4_hear 0 [some (.inr (.inr (some a))), some (.inr (.inr v0)), some (.inl v1)] [] h := (zcall_succ _ _ _ _ _).trans (if_pos (Nat.le_of_ble_eq_true rfl))
theorem u_X4_hear_0 {d : Nat} {st : List zV} {h : zH} {l0 l2 : Option zV} {x : (Option Nat)} : zX d tb_X4_hear 0 [l0, some (.inr (.inr x)), l2] st h = zX d tb_X4_hear 1 [l0, some (.inr (.inr x)), l2] (.inr (.inr x) :: st) h := (zX_unf (o := (.aload_n 1, 1, 0, [])) rfl).trans rfl
theorem u_X4_hear_1 {d : Nat} {ls : zL} {st : List zV} {h : zH} {r : Option Nat} : zX d tb_X4_hear 1 ls (.inr (.inr r) :: st) h = if r = none then zX d tb_X4_hear 11 ls st h else zX d tb_X4_hear 4 ls st h := ux_null rfl rfl
theorem u_X4_hear_4 {d : Nat} {st : List zV} {h : zH} {l1 l2 : Option zV} {x : (Option Nat)} : zX d tb_X4_hear 4 [some (.inr (.inr x)), l1, l2] st h = zX d tb_X4_hear 5 [some (.inr (.inr x)), l1, l2] (.inr (.inr x) :: st) h := (zX_unf (o := (.aload_n 0, 1, 0, [])) rfl).trans rfl
theorem u_X4_hear_5 {d : Nat} {ls : zL} {st : List zV} {h : zH} {a : Nat} : zX d tb_X4_hear 5 ls (.inr (.inr (some a)) :: st) h = if 4 = (zk h a).1 then zX d tb_X4_hear 8 ls (.inl (zi h a 4) :: st) h else none := (ux_get (t := [(4, 4, 0, "", "")]) rfl (by decide)).trans (zfb_1 _ _)
theorem u_X4_hear_8 {d : Nat} {ls : zL} {st : List zV} {h : zH} {x : Int32} : zX d tb_X4_hear 8 ls (.inl x :: st) h = if x = 0 then zX d tb_X4_hear 12 ls st h else zX d tb_X4_hear 11 ls st h := ux_if_eq rfl rfl
theorem u_X4_hear_11 {d : Nat} {ls : zL} {h : zH} : zX d tb_X4_hear 11 ls [] h = some (none, h) := (zX_unf (o := (.return_, 1, 0, [])) rfl).trans rfl
theorem u_X4_hear_12 {d : Nat} {st : List zV} {h : zH} {l1 l2 : Option zV} {x : (Option Nat)} : zX d tb_X4_hear 12 [some (.inr (.inr x)), l1, l2] st h = zX d tb_X4_hear 13 [some (.inr (.inr x)), l1, l2] (.inr (.inr x) :: st) h := (zX_unf (o := (.aload_n 0, 1, 0, [])) rfl).trans rfl
theorem u_X4_hear_13 {d : Nat} {st : List zV} {h : zH} {l0 l2 : Option zV} {x : (Option Nat)} : zX d tb_X4_hear 13 [l0, some (.inr (.inr x)), l2] st h = zX d tb_X4_hear 14 [l0, some (.inr (.inr x)), l2] (.inr (.inr x) :: st) h := (zX_unf (o := (.aload_n 1, 1, 0, [])) rfl).trans rfl
theorem u_X4_hear_14 {d : Nat} {ls : zL} {st : List zV} {h : zH} {a : Nat} : zX d tb_X4_hear 14 ls (.inr (.inr (some a)) :: st) h = if 0 = (zk h a).1 then zX d tb_X4_hear 17 ls (.inl (zi h a 4) :: st) h else if 5 = (zk h a).1 then zX d tb_X4_hear 17 ls (.inl (zi h a 4) :: st) h else if 8 = (zk h a).1 then zX d tb_X4_hear 17 ls (.inl (zi h a 4) :: st) h else none := (ux_get (t := [(0, 4, 0, "", ""), (5, 4, 0, "", ""), (8, 4, 0, "", "")]) rfl (by decide)).trans (zfb_3 _ _)
theorem u_X4_hear_17 {d : Nat} {ls : zL} {h : zH} {a : Nat} {v0 : Int32} : zX d tb_X4_hear 17 ls [.inl v0, .inr (.inr (some a))] h = if 4 = (zk h a).1 then (zcall (zP zM) d 23 [.inr (.inr (some a)), .inl v0] h).bind (fun q => zX d tb_X4_hear 20 ls (q.1.toList ++ []) q.2) else none := (ux_callV (t := [(4, 23, 0, "", "")]) (as := [.inl v0]) (r := []) rfl (n := 1) rfl rfl rfl (Nat.le_of_ble_eq_true rfl)).trans (zfb_1 _ _)
theorem u_X4_hear_20 {d : Nat} {st : List zV} {h : zH} {l1 l2 : Option zV} {x : (Option Nat)} : zX d tb_X4_hear 20 [some (.inr (.inr x)), l1, l2] st h = zX d tb_X4_hear 21 [some (.inr (.inr x)), l1, l2] (.inr (.inr x) :: st) h := (zX_unf (o := (.aload_n 0, 1, 0, [])) rfl).trans rfl
theorem u_X4_hear_21 {d : Nat} {ls : zL} {st : List zV} {h : zH} {a : Nat} : zX d tb_X4_hear 21 ls (.inr (.inr (some a)) :: st) h = if 4 = (zk h a).1 then zX d tb_X4_hear 24 ls (.inl (zi h a 4) :: st) h else none := (ux_get (t := [(4, 4, 0, "", "")]) rfl (by decide)).trans (zfb_1 _ _)
theorem u_X4_hear_24 {d : Nat} {ls : zL} {st : List zV} {h : zH} {x : Int32} : zX d tb_X4_hear 24 ls (.inl x :: st) h = if x = 0 then zX d tb_X4_hear 28 ls st h else zX d tb_X4_hear 27 ls st h := ux_if_eq rfl rfl
theorem u_X4_hear_27 {d : Nat} {ls : zL} {h : zH} : zX d tb_X4_hear 27 ls [] h = some (none, h) := (zX_unf (o := (.return_, 1, 0, [])) rfl).trans rfl
theorem u_X4_hear_28 {d : Nat} {st : List zV} {h : zH} {l0 l2 : Option zV} {x : (Option Nat)} : zX d tb_X4_hear 28 [l0, some (.inr (.inr x)), l2] st h = zX d tb_X4_hear 29 [l0, some (.inr (.inr x)), l2] (.inr (.inr x) :: st) h := (zX_unf (o := (.aload_n 1, 1, 0, [])) rfl).trans rfl
theorem u_X4_hear_29 {d : Nat} {st : List zV} {h : zH} {l1 l2 : Option zV} {x : (Option Nat)} : zX d tb_X4_hear 29 [some (.inr (.inr x)), l1, l2] st h = zX d tb_X4_hear 30 [some (.inr (.inr x)), l1, l2] (.inr (.inr x) :: st) h := (zX_unf (o := (.aload_n 0, 1, 0, [])) rfl).trans rfl
theorem u_X4_hear_30 {d : Nat} {ls : zL} {st : List zV} {h : zH} {a : Nat} : zX d tb_X4_hear 30 ls (.inr (.inr (some a)) :: st) h = if 4 = (zk h a).1 then zX d tb_X4_hear 33 ls (.inl (zi h a 3) :: st) h else none := (ux_get (t := [(4, 3, 0, "", "")]) rfl (by decide)).trans (zfb_1 _ _)
theorem u_X4_hear_33 {d : Nat} {st : List zV} {h : zH} {l1 l2 : Option zV} {x : (Option Nat)} : zX d tb_X4_hear 33 [some (.inr (.inr x)), l1, l2] st h = zX d tb_X4_hear 34 [some (.inr (.inr x)), l1, l2] (.inr (.inr x) :: st) h := (zX_unf (o := (.aload_n 0, 1, 0, [])) rfl).trans rfl
theorem u_X4_hear_34 {d : Nat} {ls : zL} {st : List zV} {h : zH} {a : Nat} : zX d tb_X4_hear 34 ls (.inr (.inr (some a)) :: st) h = if 4 = (zk h a).1 then zX d tb_X4_hear 37 ls (.inl (zi h a 7) :: st) h else none := (ux_get (t := [(4, 7, 0, "", "")]) rfl (by decide)).trans (zfb_1 _ _)
theorem u_X4_hear_37 {d : Nat} {ls : zL} {h : zH} {a : Nat} {v0 : Int32} {v1 : Int32} : zX d tb_X4_hear 37 ls [.inl v1, .inl v0, .inr (.inr (some a))] h = if 0 = (zk h a).1 then (zcall (zP zM) d 2 [.inr (.inr (some a)), .inl v0, .inl v1] h).bind (fun q => zX d tb_X4_hear 40 ls (q.1.toList ++ []) q.2) else if 5 = (zk h a).1 then (zcall (zP zM) d 26 [.inr (.inr (some a)), .inl v0, .inl v1] h).bind (fun q => zX d tb_X4_hear 40 ls (q.1.toList ++ []) q.2) else if 8 = (zk h a).1 then (zcall (zP zM) d 43 [.inr (.inr (some a)), .inl v0, .inl v1] h).bind (fun q => zX d tb_X4_hear 40 ls (q.1.toList ++ []) q.2) else none := (ux_callV (t := [(0, 2, 53, "CorpseTales$Tale", "CorpseTales$Tale"), (5, 26, 53, "CorpseTales$Tale", "CorpseTales$Tale"), (8, 43, 0, "", "")]) (as := [.inl v0, .inl v1]) (r := []) rfl (n := 2) rfl rfl rfl (Nat.le_of_ble_eq_true rfl)).trans (zfb_3 _ _)
theorem u_X4_hear_40 {d : Nat} {ls : zL} {st : List zV} {h : zH} {x : Int32} : zX d tb_X4_hear 40 ls (.inl x :: st) h = if x = 0 then zX d tb_X4_hear 61 ls st h else zX d tb_X4_hear 43 ls st h := ux_if_eq rfl rfl
theorem u_X4_hear_43 {d : Nat} {st : List zV} {h : zH} {l1 l2 : Option zV} {x : (Option Nat)} : zX d tb_X4_hear 43 [some (.inr (.inr x)), l1, l2] st h = zX d tb_X4_hear 44 [some (.inr (.inr x)), l1, l2] (.inr (.inr x) :: st) h := (zX_unf (o := (.aload_n 0, 1, 0, [])) rfl).trans rfl
theorem u_X4_hear_44 {d : Nat} {ls : zL} {st : List zV} {h : zH} {x : (Option Nat)} : zX d tb_X4_hear 44 ls (.inr (.inr x) :: st) h = zX d tb_X4_hear 45 ls (.inr (.inr x) :: .inr (.inr x) :: st) h := (zX_unf (o := (.dup, 1, 0, [])) rfl).trans rfl
theorem u_X4_hear_44i {d : Nat} {ls : zL} {st : List zV} {h : zH} {x : Int32} : zX d tb_X4_hear 44 ls (.inl x :: st) h = zX d tb_X4_hear 45 ls (.inl x :: .inl x :: st) h := (zX_unf (o := (.dup, 1, 0, [])) rfl).trans rfl
theorem u_X4_hear_45 {d : Nat} {ls : zL} {st : List zV} {h : zH} {a : Nat} : zX d tb_X4_hear 45 ls (.inr (.inr (some a)) :: st) h = if 4 = (zk h a).1 then zX d tb_X4_hear 48 ls (.inl (zi h a 1) :: st) h else none := (ux_get (t := [(4, 1, 0, "", "")]) rfl (by decide)).trans (zfb_1 _ _)
theorem u_X4_hear_48 {d : Nat} {ls : zL} {st : List zV} {h : zH} : zX d tb_X4_hear 48 ls st h = zX d tb_X4_hear 49 ls (.inl 1 :: st) h := (zX_unf (o := (.iconst 1, 1, 0, [])) rfl).trans rfl
theorem u_X4_hear_49 {d : Nat} {ls : zL} {st : List zV} {h : zH} {x y : Int32} : zX d tb_X4_hear 49 ls (.inl y :: .inl x :: st) h = zX d tb_X4_hear 50 ls (.inl (x + y) :: st) h := (zX_unf (o := (.iadd, 1, 0, [])) rfl).trans rfl
theorem u_X4_hear_50 {d : Nat} {ls : zL} {st : List zV} {h : zH} {a : Nat} {v : Int32} : zX d tb_X4_hear 50 ls (.inl v :: .inr (.inr (some a)) :: st) h = if 4 = (zk h a).1 then zX d tb_X4_hear 53 ls st (zwI h a 1 v) else none := (ux_put (t := [(4, 1, 0, "", "")]) rfl).trans (zfb_1 _ _)
theorem u_X4_hear_53 {d : Nat} {st : List zV} {h : zH} {l1 l2 : Option zV} {x : (Option Nat)} : zX d tb_X4_hear 53 [some (.inr (.inr x)), l1, l2] st h = zX d tb_X4_hear 54 [some (.inr (.inr x)), l1, l2] (.inr (.inr x) :: st) h := (zX_unf (o := (.aload_n 0, 1, 0, [])) rfl).trans rfl
theorem u_X4_hear_54 {d : Nat} {ls : zL} {st : List zV} {h : zH} : zX d tb_X4_hear 54 ls st h = zX d tb_X4_hear 55 ls (.inl 0 :: st) h := (zX_unf (o := (.iconst 0, 1, 0, [])) rfl).trans rfl
theorem u_X4_hear_55 {d : Nat} {ls : zL} {st : List zV} {h : zH} {a : Nat} {v : Int32} : zX d tb_X4_hear 55 ls (.inl v :: .inr (.inr (some a)) :: st) h = if 4 = (zk h a).1 then zX d tb_X4_hear 58 ls st (zwI h a 0 v) else none := (ux_put (t := [(4, 0, 0, "", "")]) rfl).trans (zfb_1 _ _)
theorem u_X4_hear_58 {d : Nat} {ls : zL} {st : List zV} {h : zH} : zX d tb_X4_hear 58 ls st h = zX d tb_X4_hear 77 ls st h := (zX_unf (o := (.goto 19, 3, 0, [])) rfl).trans rfl
theorem u_X4_hear_61 {d : Nat} {st : List zV} {h : zH} {l0 l2 : Option zV} {x : (Option Nat)} : zX d tb_X4_hear 61 [l0, some (.inr (.inr x)), l2] st h = zX d tb_X4_hear 62 [l0, some (.inr (.inr x)), l2] (.inr (.inr x) :: st) h := (zX_unf (o := (.aload_n 1, 1, 0, [])) rfl).trans rfl
theorem u_X4_hear_62 {d : Nat} {st : List zV} {h : zH} {l1 l2 : Option zV} {x : (Option Nat)} : zX d tb_X4_hear 62 [some (.inr (.inr x)), l1, l2] st h = zX d tb_X4_hear 63 [some (.inr (.inr x)), l1, l2] (.inr (.inr x) :: st) h := (zX_unf (o := (.aload_n 0, 1, 0, [])) rfl).trans rfl
theorem u_X4_hear_63 {d : Nat} {ls : zL} {st : List zV} {h : zH} {a : Nat} : zX d tb_X4_hear 63 ls (.inr (.inr (some a)) :: st) h = if 4 = (zk h a).1 then zX d tb_X4_hear 66 ls (.inl (zi h a 6) :: st) h else none := (ux_get (t := [(4, 6, 0, "", "")]) rfl (by decide)).trans (zfb_1 _ _)
theorem u_X4_hear_66 {d : Nat} {ls : zL} {h : zH} {a : Nat} {v0 : Int32} : zX d tb_X4_hear 66 ls [.inl v0, .inr (.inr (some a))] h = if 0 = (zk h a).1 then (zcall (zP zM) d 44 [.inr (.inr (some a)), .inl v0] h).bind (fun q => zX d tb_X4_hear 69 ls (q.1.toList ++ []) q.2) else if 5 = (zk h a).1 then (zcall (zP zM) d 44 [.inr (.inr (some a)), .inl v0] h).bind (fun q => zX d tb_X4_hear 69 ls (q.1.toList ++ []) q.2) else if 8 = (zk h a).1 then (zcall (zP zM) d 44 [.inr (.inr (some a)), .inl v0] h).bind (fun q => zX d tb_X4_hear 69 ls (q.1.toList ++ []) q.2) else none := (ux_callV (t := [(0, 44, 1, "CorpseTales$Tale", "CorpseTales$Tale"), (5, 44, 1, "CorpseTales$Tale", "CorpseTales$Tale"), (8, 44, 0, "", "")]) (as := [.inl v0]) (r := []) rfl (n := 1) rfl rfl rfl (Nat.le_of_ble_eq_true rfl)).trans (zfb_3 _ _)
theorem u_X4_hear_69 {d : Nat} {ls : zL} {st : List zV} {h : zH} {x : Int32} : zX d tb_X4_hear 69 ls (.inl x :: st) h = if x = 0 then zX d tb_X4_hear 72 ls st h else zX d tb_X4_hear 77 ls st h := ux_if_ne rfl rfl
theorem u_X4_hear_72 {d : Nat} {st : List zV} {h : zH} {l1 l2 : Option zV} {x : (Option Nat)} : zX d tb_X4_hear 72 [some (.inr (.inr x)), l1, l2] st h = zX d tb_X4_hear 73 [some (.inr (.inr x)), l1, l2] (.inr (.inr x) :: st) h := (zX_unf (o := (.aload_n 0, 1, 0, [])) rfl).trans rfl
theorem u_X4_hear_73 {d : Nat} {ls : zL} {st : List zV} {h : zH} : zX d tb_X4_hear 73 ls st h = zX d tb_X4_hear 74 ls (.inl 1 :: st) h := (zX_unf (o := (.iconst 1, 1, 0, [])) rfl).trans rfl
theorem u_X4_hear_74 {d : Nat} {ls : zL} {h : zH} {a : Nat} {v0 : Int32} : zX d tb_X4_hear 74 ls [.inl v0, .inr (.inr (some a))] h = if 4 = (zk h a).1 then (zcall (zP zM) d 23 [.inr (.inr (some a)), .inl v0] h).bind (fun q => zX d tb_X4_hear 77 ls (q.1.toList ++ []) q.2) else none := (ux_callV (t := [(4, 23, 0, "", "")]) (as := [.inl v0]) (r := []) rfl (n := 1) rfl rfl rfl (Nat.le_of_ble_eq_true rfl)).trans (zfb_1 _ _)
theorem u_X4_hear_77 {d : Nat} {st : List zV} {h : zH} {l1 l2 : Option zV} {x : (Option Nat)} : zX d tb_X4_hear 77 [some (.inr (.inr x)), l1, l2] st h = zX d tb_X4_hear 78 [some (.inr (.inr x)), l1, l2] (.inr (.inr x) :: st) h := (zX_unf (o := (.aload_n 0, 1, 0, [])) rfl).trans rfl
theorem u_X4_hear_78 {d : Nat} {ls : zL} {st : List zV} {h : zH} {x : (Option Nat)} : zX d tb_X4_hear 78 ls (.inr (.inr x) :: st) h = zX d tb_X4_hear 79 ls (.inr (.inr x) :: .inr (.inr x) :: st) h := (zX_unf (o := (.dup, 1, 0, [])) rfl).trans rfl
theorem u_X4_hear_78i {d : Nat} {ls : zL} {st : List zV} {h : zH} {x : Int32} : zX d tb_X4_hear 78 ls (.inl x :: st) h = zX d tb_X4_hear 79 ls (.inl x :: .inl x :: st) h := (zX_unf (o := (.dup, 1, 0, [])) rfl).trans rfl
theorem u_X4_hear_79 {d : Nat} {ls : zL} {st : List zV} {h : zH} {a : Nat} : zX d tb_X4_hear 79 ls (.inr (.inr (some a)) :: st) h = if 4 = (zk h a).1 then zX d tb_X4_hear 82 ls (.inl (zi h a 2) :: st) h else none := (ux_get (t := [(4, 2, 0, "", "")]) rfl (by decide)).trans (zfb_1 _ _)
theorem u_X4_hear_82 {d : Nat} {ls : zL} {st : List zV} {h : zH} : zX d tb_X4_hear 82 ls st h = zX d tb_X4_hear 83 ls (.inl 1 :: st) h := (zX_unf (o := (.iconst 1, 1, 0, [])) rfl).trans rfl
theorem u_X4_hear_83 {d : Nat} {ls : zL} {st : List zV} {h : zH} {x y : Int32} : zX d tb_X4_hear 83 ls (.inl y :: .inl x :: st) h = zX d tb_X4_hear 84 ls (.inl (x + y) :: st) h := (zX_unf (o := (.iadd, 1, 0, [])) rfl).trans rfl
theorem u_X4_hear_84 {d : Nat} {ls : zL} {st : List zV} {h : zH} {a : Nat} {v : Int32} : zX d tb_X4_hear 84 ls (.inl v :: .inr (.inr (some a)) :: st) h = if 4 = (zk h a).1 then zX d tb_X4_hear 87 ls st (zwI h a 2 v) else none := (ux_put (t := [(4, 2, 0, "", "")]) rfl).trans (zfb_1 _ _)
theorem u_X4_hear_87 {d : Nat} {st : List zV} {h : zH} {l1 l2 : Option zV} {x : (Option Nat)} : zX d tb_X4_hear 87 [some (.inr (.inr x)), l1, l2] st h = zX d tb_X4_hear 88 [some (.inr (.inr x)), l1, l2] (.inr (.inr x) :: st) h := (zX_unf (o := (.aload_n 0, 1, 0, [])) rfl).trans rfl
theorem u_X4_hear_88 {d : Nat} {st : List zV} {h : zH} {l1 l2 : Option zV} {x : (Option Nat)} : zX d tb_X4_hear 88 [some (.inr (.inr x)), l1, l2] st h = zX d tb_X4_hear 89 [some (.inr (.inr x)), l1, l2] (.inr (.inr x) :: st) h := (zX_unf (o := (.aload_n 0, 1, 0, [])) rfl).trans rfl
theorem u_X4_hear_89 {d : Nat} {ls : zL} {st : List zV} {h : zH} {a : Nat} : zX d tb_X4_hear 89 ls (.inr (.inr (some a)) :: st) h = if 4 = (zk h a).1 then zX d tb_X4_hear 92 ls (.inl (zi h a 7) :: st) h else none := (ux_get (t := [(4, 7, 0, "", "")]) rfl (by decide)).trans (zfb_1 _ _)
theorem u_X4_hear_92 {d : Nat} {ls : zL} {st : List zV} {h : zH} : zX d tb_X4_hear 92 ls st h = zX d tb_X4_hear 93 ls (.inl 1 :: st) h := (zX_unf (o := (.iconst 1, 1, 0, [])) rfl).trans rfl
theorem u_X4_hear_93 {d : Nat} {st : List zV} {h : zH} {l0 l2 : Option zV} {x : (Option Nat)} : zX d tb_X4_hear 93 [l0, some (.inr (.inr x)), l2] st h = zX d tb_X4_hear 94 [l0, some (.inr (.inr x)), l2] (.inr (.inr x) :: st) h := (zX_unf (o := (.aload_n 1, 1, 0, [])) rfl).trans rfl
theorem u_X4_hear_94 {d : Nat} {ls : zL} {st : List zV} {h : zH} {a : Nat} : zX d tb_X4_hear 94 ls (.inr (.inr (some a)) :: st) h = if 0 = (zk h a).1 then zX d tb_X4_hear 97 ls (.inl (zi h a 0) :: st) h else if 5 = (zk h a).1 then zX d tb_X4_hear 97 ls (.inl (zi h a 0) :: st) h else if 8 = (zk h a).1 then zX d tb_X4_hear 97 ls (.inl (zi h a 0) :: st) h else none := (ux_get (t := [(0, 0, 0, "", ""), (5, 0, 0, "", ""), (8, 0, 0, "", "")]) rfl (by decide)).trans (zfb_3 _ _)
theorem u_X4_hear_97 {d : Nat} {ls : zL} {st : List zV} {h : zH} {x y : Int32} : zX d tb_X4_hear 97 ls (.inl y :: .inl x :: st) h = zX d tb_X4_hear 98 ls (.inl (x <<< (y &&& 31)) :: st) h := (zX_unf (o := (.ishl, 1, 0, [])) rfl).trans rfl
theorem u_X4_hear_98 {d : Nat} {ls : zL} {st : List zV} {h : zH} {x y : Int32} : zX d tb_X4_hear 98 ls (.inl y :: .inl x :: st) h = zX d tb_X4_hear 99 ls (.inl (x ||| y) :: st) h := (zX_unf (o := (.ior, 1, 0, [])) rfl).trans rfl
theorem u_X4_hear_99 {d : Nat} {ls : zL} {st : List zV} {h : zH} {a : Nat} {v : Int32} : zX d tb_X4_hear 99 ls (.inl v :: .inr (.inr (some a)) :: st) h = if 4 = (zk h a).1 then zX d tb_X4_hear 102 ls st (zwI h a 7 v) else none := (ux_put (t := [(4, 7, 0, "", "")]) rfl).trans (zfb_1 _ _)
theorem u_X4_hear_102 {d : Nat} {st : List zV} {h : zH} {l0 l1 : Option zV} {x : Int32} : zX d tb_X4_hear 102 [l0, l1, some (.inl x)] st h = zX d tb_X4_hear 103 [l0, l1, some (.inl x)] (.inl x :: st) h := (zX_unf (o := (.iload_n 2, 1, 0, [])) rfl).trans rfl
theorem u_X4_hear_103 {d : Nat} {ls : zL} {st : List zV} {h : zH} {x : Int32} : zX d tb_X4_hear 103 ls (.inl x :: st) h = if x = 0 then zX d tb_X4_hear 111 ls st h else zX d tb_X4_hear 106 ls st h := ux_if_eq rfl rfl
theorem u_X4_hear_106 {d : Nat} {st : List zV} {h : zH} {l1 l2 : Option zV} {x : (Option Nat)} : zX d tb_X4_hear 106 [some (.inr (.inr x)), l1, l2] st h = zX d tb_X4_hear 107 [some (.inr (.inr x)), l1, l2] (.inr (.inr x) :: st) h := (zX_unf (o := (.aload_n 0, 1, 0, [])) rfl).trans rfl
theorem u_X4_hear_107 {d : Nat} {st : List zV} {h : zH} {l0 l2 : Option zV} {x : (Option Nat)} : zX d tb_X4_hear 107 [l0, some (.inr (.inr x)), l2] st h = zX d tb_X4_hear 108 [l0, some (.inr (.inr x)), l2] (.inr (.inr x) :: st) h := (zX_unf (o := (.aload_n 1, 1, 0, [])) rfl).trans rfl
theorem u_X4_hear_108 {d : Nat} {ls : zL} {h : zH} {a : Nat} {v0 : (Option Nat)} : zX d tb_X4_hear 108 ls [.inr (.inr v0), .inr (.inr (some a))] h = if 4 = (zk h a).1 then (zcall (zP zM) d 22 [.inr (.inr (some a)), .inr (.inr v0)] h).bind (fun q => zX d tb_X4_hear 111 ls (q.1.toList ++ []) q.2) else none := (ux_callV (t := [(4, 22, 0, "", "")]) (as := [.inr (.inr v0)]) (r := []) rfl (n := 1) rfl rfl rfl (Nat.le_of_ble_eq_true rfl)).trans (zfb_1 _ _)
theorem u_X4_hear_111 {d : Nat} {ls : zL} {h : zH} : zX d tb_X4_hear 111 ls [] h = some (none, h) := (zX_unf (o := (.return_, 1, 0, [])) rfl).trans rfl
theorem e_X4_learn {d : Nat} {h : zH} {v0 : (Option Nat)} {a : Nat} : zcall (zP zM) (d + 1) 22 [.inr (.inr (some a)), .inr (.inr v0)] h = zX d tb_X4_learn 0 [some (.inr (.inr (some a))), some (.inr (.inr v0))] [] h := (zcall_succ _ _ _ _ _).trans (if_pos (Nat.le_of_ble_eq_true rfl))
theorem u_X4_learn_0 {d : Nat} {st : List zV} {h : zH} {l1 : Option zV} {x : (Option Nat)} : zX d tb_X4_learn 0 [some (.inr (.inr x)), l1] st h = zX d tb_X4_learn 1 [some (.inr (.inr x)), l1] (.inr (.inr x) :: st) h := (zX_unf (o := (.aload_n 0, 1, 0, [])) rfl).trans rfl
theorem u_X4_learn_1 {d : Nat} {st : List zV} {h : zH} {l1 : Option zV} {x : (Option Nat)} : zX d tb_X4_learn 1 [some (.inr (.inr x)), l1] st h = zX d tb_X4_learn 2 [some (.inr (.inr x)), l1] (.inr (.inr x) :: st) h := (zX_unf (o := (.aload_n 0, 1, 0, [])) rfl).trans rfl
theorem u_X4_learn_2 {d : Nat} {ls : zL} {st : List zV} {h : zH} {a : Nat} : zX d tb_X4_learn 2 ls (.inr (.inr (some a)) :: st) h = if 4 = (zk h a).1 then zX d tb_X4_learn 5 ls (.inl (zi h a 3) :: st) h else none := (ux_get (t := [(4, 3, 0, "", "")]) rfl (by decide)).trans (zfb_1 _ _)
theorem u_X4_learn_5 {d : Nat} {ls : zL} {st : List zV} {h : zH} : zX d tb_X4_learn 5 ls st h = zX d tb_X4_learn 6 ls (.inl 1 :: st) h := (zX_unf (o := (.iconst 1, 1, 0, [])) rfl).trans rfl
theorem u_X4_learn_6 {d : Nat} {st : List zV} {h : zH} {l0 : Option zV} {x : (Option Nat)} : zX d tb_X4_learn 6 [l0, some (.inr (.inr x))] st h = zX d tb_X4_learn 7 [l0, some (.inr (.inr x))] (.inr (.inr x) :: st) h := (zX_unf (o := (.aload_n 1, 1, 0, [])) rfl).trans rfl
theorem u_X4_learn_7 {d : Nat} {ls : zL} {st : List zV} {h : zH} {a : Nat} : zX d tb_X4_learn 7 ls (.inr (.inr (some a)) :: st) h = if 0 = (zk h a).1 then zX d tb_X4_learn 10 ls (.inl (zi h a 3) :: st) h else if 5 = (zk h a).1 then zX d tb_X4_learn 10 ls (.inl (zi h a 3) :: st) h else if 8 = (zk h a).1 then zX d tb_X4_learn 10 ls (.inl (zi h a 3) :: st) h else none := (ux_get (t := [(0, 3, 0, "", ""), (5, 3, 0, "", ""), (8, 3, 0, "", "")]) rfl (by decide)).trans (zfb_3 _ _)
theorem u_X4_learn_10 {d : Nat} {ls : zL} {st : List zV} {h : zH} {x y : Int32} : zX d tb_X4_learn 10 ls (.inl y :: .inl x :: st) h = zX d tb_X4_learn 11 ls (.inl (x <<< (y &&& 31)) :: st) h := (zX_unf (o := (.ishl, 1, 0, [])) rfl).trans rfl
theorem u_X4_learn_11 {d : Nat} {ls : zL} {st : List zV} {h : zH} {x y : Int32} : zX d tb_X4_learn 11 ls (.inl y :: .inl x :: st) h = zX d tb_X4_learn 12 ls (.inl (x ||| y) :: st) h := (zX_unf (o := (.ior, 1, 0, [])) rfl).trans rfl
theorem u_X4_learn_12 {d : Nat} {ls : zL} {st : List zV} {h : zH} {a : Nat} {v : Int32} : zX d tb_X4_learn 12 ls (.inl v :: .inr (.inr (some a)) :: st) h = if 4 = (zk h a).1 then zX d tb_X4_learn 15 ls st (zwI h a 3 v) else none := (ux_put (t := [(4, 3, 0, "", "")]) rfl).trans (zfb_1 _ _)
theorem u_X4_learn_15 {d : Nat} {ls : zL} {h : zH} : zX d tb_X4_learn 15 ls [] h = some (none, h) := (zX_unf (o := (.return_, 1, 0, [])) rfl).trans rfl
theorem e_X4_walk {d : Nat} {h : zH} {v0 : Int32} {a : Nat} : zcall (zP zM) (d + 1) 23 [.inr (.inr (some a)), .inl v0] h = zX d tb_X4_walk 0 [some (.inr (.inr (some a))), some (.inl v0)] [] h := (zcall_succ _ _ _ _ _).trans (if_pos (Nat.le_of_ble_eq_true rfl))
theorem u_X4_walk_0 {d : Nat} {st : List zV} {h : zH} {l1 : Option zV} {x : (Option Nat)} : zX d tb_X4_walk 0 [some (.inr (.inr x)), l1] st h = zX d tb_X4_walk 1 [some (.inr (.inr x)), l1] (.inr (.inr x) :: st) h := (zX_unf (o := (.aload_n 0, 1, 0, [])) rfl).trans rfl
theorem u_X4_walk_1 {d : Nat} {st : List zV} {h : zH} {l1 : Option zV} {x : (Option Nat)} : zX d tb_X4_walk 1 [some (.inr (.inr x)), l1] st h = zX d tb_X4_walk 2 [some (.inr (.inr x)), l1] (.inr (.inr x) :: st) h := (zX_unf (o := (.aload_n 0, 1, 0, [])) rfl).trans rfl
theorem u_X4_walk_2 {d : Nat} {ls : zL} {st : List zV} {h : zH} {a : Nat} : zX d tb_X4_walk 2 ls (.inr (.inr (some a)) :: st) h = if 4 = (zk h a).1 then zX d tb_X4_walk 5 ls (.inl (zi h a 0) :: st) h else none := (ux_get (t := [(4, 0, 0, "", "")]) rfl (by decide)).trans (zfb_1 _ _)
theorem u_X4_walk_5 {d : Nat} {st : List zV} {h : zH} {l0 : Option zV} {x : Int32} : zX d tb_X4_walk 5 [l0, some (.inl x)] st h = zX d tb_X4_walk 6 [l0, some (.inl x)] (.inl x :: st) h := (zX_unf (o := (.iload_n 1, 1, 0, [])) rfl).trans rfl
theorem u_X4_walk_6 {d : Nat} {ls : zL} {st : List zV} {h : zH} {x y : Int32} : zX d tb_X4_walk 6 ls (.inl y :: .inl x :: st) h = zX d tb_X4_walk 7 ls (.inl (x + y) :: st) h := (zX_unf (o := (.iadd, 1, 0, [])) rfl).trans rfl
theorem u_X4_walk_7 {d : Nat} {st : List zV} {h : zH} {l1 : Option zV} {x : (Option Nat)} : zX d tb_X4_walk 7 [some (.inr (.inr x)), l1] st h = zX d tb_X4_walk 8 [some (.inr (.inr x)), l1] (.inr (.inr x) :: st) h := (zX_unf (o := (.aload_n 0, 1, 0, [])) rfl).trans rfl
theorem u_X4_walk_8 {d : Nat} {ls : zL} {st : List zV} {h : zH} {a : Nat} : zX d tb_X4_walk 8 ls (.inr (.inr (some a)) :: st) h = if 4 = (zk h a).1 then zX d tb_X4_walk 11 ls (.inl (zi h a 5) :: st) h else none := (ux_get (t := [(4, 5, 0, "", "")]) rfl (by decide)).trans (zfb_1 _ _)
theorem u_X4_walk_11 {d : Nat} {ls : zL} {h : zH} {x y : Int32} {r0 : zV} : zX d tb_X4_walk 11 ls [.inl y, .inl x, r0] h = zX d tb_X4_walk 14 ls [.inl (if y < x then y else x), r0] h := (zX_unf (o := (.invokestatic 62, 3, (-4), [])) rfl).trans rfl
theorem u_X4_walk_14 {d : Nat} {ls : zL} {st : List zV} {h : zH} {a : Nat} {v : Int32} : zX d tb_X4_walk 14 ls (.inl v :: .inr (.inr (some a)) :: st) h = if 4 = (zk h a).1 then zX d tb_X4_walk 17 ls st (zwI h a 0 v) else none := (ux_put (t := [(4, 0, 0, "", "")]) rfl).trans (zfb_1 _ _)
theorem u_X4_walk_17 {d : Nat} {st : List zV} {h : zH} {l1 : Option zV} {x : (Option Nat)} : zX d tb_X4_walk 17 [some (.inr (.inr x)), l1] st h = zX d tb_X4_walk 18 [some (.inr (.inr x)), l1] (.inr (.inr x) :: st) h := (zX_unf (o := (.aload_n 0, 1, 0, [])) rfl).trans rfl
theorem u_X4_walk_18 {d : Nat} {st : List zV} {h : zH} {l1 : Option zV} {x : (Option Nat)} : zX d tb_X4_walk 18 [some (.inr (.inr x)), l1] st h = zX d tb_X4_walk 19 [some (.inr (.inr x)), l1] (.inr (.inr x) :: st) h := (zX_unf (o := (.aload_n 0, 1, 0, [])) rfl).trans rfl
theorem u_X4_walk_19 {d : Nat} {ls : zL} {st : List zV} {h : zH} {a : Nat} : zX d tb_X4_walk 19 ls (.inr (.inr (some a)) :: st) h = if 4 = (zk h a).1 then zX d tb_X4_walk 22 ls (.inl (zi h a 0) :: st) h else none := (ux_get (t := [(4, 0, 0, "", "")]) rfl (by decide)).trans (zfb_1 _ _)
theorem u_X4_walk_22 {d : Nat} {st : List zV} {h : zH} {l1 : Option zV} {x : (Option Nat)} : zX d tb_X4_walk 22 [some (.inr (.inr x)), l1] st h = zX d tb_X4_walk 23 [some (.inr (.inr x)), l1] (.inr (.inr x) :: st) h := (zX_unf (o := (.aload_n 0, 1, 0, [])) rfl).trans rfl
theorem u_X4_walk_23 {d : Nat} {ls : zL} {st : List zV} {h : zH} {a : Nat} : zX d tb_X4_walk 23 ls (.inr (.inr (some a)) :: st) h = if 4 = (zk h a).1 then zX d tb_X4_walk 26 ls (.inl (zi h a 5) :: st) h else none := (ux_get (t := [(4, 5, 0, "", "")]) rfl (by decide)).trans (zfb_1 _ _)
theorem u_X4_walk_26 {d : Nat} {ls : zL} {st : List zV} {h : zH} {x y : Int32} : zX d tb_X4_walk 26 ls (.inl y :: .inl x :: st) h = if x = y then zX d tb_X4_walk 29 ls st h else zX d tb_X4_walk 33 ls st h := ux_ic_ne rfl rfl
theorem u_X4_walk_29 {d : Nat} {ls : zL} {st : List zV} {h : zH} : zX d tb_X4_walk 29 ls st h = zX d tb_X4_walk 30 ls (.inl 1 :: st) h := (zX_unf (o := (.iconst 1, 1, 0, [])) rfl).trans rfl
theorem u_X4_walk_30 {d : Nat} {ls : zL} {st : List zV} {h : zH} : zX d tb_X4_walk 30 ls st h = zX d tb_X4_walk 34 ls st h := (zX_unf (o := (.goto 4, 3, 0, [])) rfl).trans rfl
theorem u_X4_walk_33 {d : Nat} {ls : zL} {st : List zV} {h : zH} : zX d tb_X4_walk 33 ls st h = zX d tb_X4_walk 34 ls (.inl 0 :: st) h := (zX_unf (o := (.iconst 0, 1, 0, [])) rfl).trans rfl
theorem u_X4_walk_34 {d : Nat} {ls : zL} {st : List zV} {h : zH} {a : Nat} {v : Int32} : zX d tb_X4_walk 34 ls (.inl v :: .inr (.inr (some a)) :: st) h = if 4 = (zk h a).1 then (if v = 0 ∨ v = 1 then zX d tb_X4_walk 37 ls st (zwI h a 4 v) else none) else none := (ux_putz (t := [(4, 4, 0, "", "")]) rfl).trans (zfb_1 _ _)
theorem u_X4_walk_37 {d : Nat} {ls : zL} {h : zH} : zX d tb_X4_walk 37 ls [] h = some (none, h) := (zX_unf (o := (.return_, 1, 0, [])) rfl).trans rfl
theorem e_X5_init {d : Nat} {h : zH} {v0 : Int32} {v1 : Int32} {v2 : Int32} {v3 : Int32} {v4 : Int32} {a : Nat} : zcall (zP zM) (d + 1) 24 [.inr (.inr (some a)), .inl v0, .inl v1, .inl v2, .inl v3, .inl v4] h = zX d tb_X5_init 0 [some (.inr (.inr (some a))), some (.inl v0), some (.inl v1), some (.inl v2), some (.inl v3), some (.inl v4)] [] h := (zcall_succ _ _ _ _ _).trans (if_pos (Nat.le_of_ble_eq_true rfl))
theorem u_X5_init_0 {d : Nat} {st : List zV} {h : zH} {l1 l2 l3 l4 l5 : Option zV} {x : (Option Nat)} : zX d tb_X5_init 0 [some (.inr (.inr x)), l1, l2, l3, l4, l5] st h = zX d tb_X5_init 1 [some (.inr (.inr x)), l1, l2, l3, l4, l5] (.inr (.inr x) :: st) h := (zX_unf (o := (.aload_n 0, 1, 0, [])) rfl).trans rfl
theorem u_X5_init_1 {d : Nat} {st : List zV} {h : zH} {l0 l2 l3 l4 l5 : Option zV} {x : Int32} : zX d tb_X5_init 1 [l0, some (.inl x), l2, l3, l4, l5] st h = zX d tb_X5_init 2 [l0, some (.inl x), l2, l3, l4, l5] (.inl x :: st) h := (zX_unf (o := (.iload_n 1, 1, 0, [])) rfl).trans rfl
theorem u_X5_init_2 {d : Nat} {st : List zV} {h : zH} {l0 l1 l3 l4 l5 : Option zV} {x : Int32} : zX d tb_X5_init 2 [l0, l1, some (.inl x), l3, l4, l5] st h = zX d tb_X5_init 3 [l0, l1, some (.inl x), l3, l4, l5] (.inl x :: st) h := (zX_unf (o := (.iload_n 2, 1, 0, [])) rfl).trans rfl
theorem u_X5_init_3 {d : Nat} {st : List zV} {h : zH} {l0 l1 l2 l4 l5 : Option zV} {x : Int32} : zX d tb_X5_init 3 [l0, l1, l2, some (.inl x), l4, l5] st h = zX d tb_X5_init 4 [l0, l1, l2, some (.inl x), l4, l5] (.inl x :: st) h := (zX_unf (o := (.iload_n 3, 1, 0, [])) rfl).trans rfl
theorem u_X5_init_4 {d : Nat} {st : List zV} {h : zH} {l0 l1 l2 l3 l5 : Option zV} {x : Int32} : zX d tb_X5_init 4 [l0, l1, l2, l3, some (.inl x), l5] st h = zX d tb_X5_init 6 [l0, l1, l2, l3, some (.inl x), l5] (.inl x :: st) h := (zX_unf (o := (.iload 4, 2, 0, [])) rfl).trans rfl
theorem u_X5_init_6 {d : Nat} {st : List zV} {h : zH} {l0 l1 l2 l3 l4 : Option zV} {x : Int32} : zX d tb_X5_init 6 [l0, l1, l2, l3, l4, some (.inl x)] st h = zX d tb_X5_init 8 [l0, l1, l2, l3, l4, some (.inl x)] (.inl x :: st) h := (zX_unf (o := (.iload 5, 2, 0, [])) rfl).trans rfl
theorem u_X5_init_8 {d : Nat} {ls : zL} {h : zH} {a : Nat} {v0 : Int32} {v1 : Int32} {v2 : Int32} {v3 : Int32} {v4 : Int32} : zX d tb_X5_init 8 ls [.inl v4, .inl v3, .inl v2, .inl v1, .inl v0, .inr (.inr (some a))] h = if (zk h a).1 < 12 then (zcall (zP zM) d 0 [.inr (.inr (some a)), .inl v0, .inl v1, .inl v2, .inl v3, .inl v4] h).bind fun q => zX d tb_X5_init 11 ls (q.1.toList ++ []) q.2 else none := ux_callI (as := [.inl v0, .inl v1, .inl v2, .inl v3, .inl v4]) (r := []) rfl (n := 5) rfl rfl rfl rfl (Nat.le_of_ble_eq_true rfl)
theorem u_X5_init_11 {d : Nat} {ls : zL} {h : zH} : zX d tb_X5_init 11 ls [] h = some (none, h) := (zX_unf (o := (.return_, 1, 0, [])) rfl).trans rfl
theorem e_X5_kind {d : Nat} {h : zH} {a : Nat} : zcall (zP zM) (d + 1) 25 [.inr (.inr (some a))] h = zX d tb_X5_kind 0 [some (.inr (.inr (some a)))] [] h := (zcall_succ _ _ _ _ _).trans (if_pos (Nat.le_of_ble_eq_true rfl))
theorem u_X5_kind_0 {d : Nat} {ls : zL} {st : List zV} {h : zH} : zX d tb_X5_kind 0 ls st h = zX d tb_X5_kind 1 ls (.inl 2 :: st) h := (zX_unf (o := (.iconst 2, 1, 0, [])) rfl).trans rfl
theorem u_X5_kind_1 {d : Nat} {ls : zL} {h : zH} {v : Int32} : zX d tb_X5_kind 1 ls [.inl v] h = some (some (.inl v), h) := (zX_unf (o := (.ireturn, 1, 0, [])) rfl).trans rfl
theorem e_X5_isAnswered {d : Nat} {h : zH} {v0 : Int32} {v1 : Int32} {a : Nat} : zcall (zP zM) (d + 1) 26 [.inr (.inr (some a)), .inl v0, .inl v1] h = zX d tb_X5_isAnswered 0 [some (.inr (.inr (some a))), some (.inl v0), some (.inl v1)] [] h := (zcall_succ _ _ _ _ _).trans (if_pos (Nat.le_of_ble_eq_true rfl))
theorem u_X5_isAnswered_0 {d : Nat} {st : List zV} {h : zH} {l0 l1 : Option zV} {x : Int32} : zX d tb_X5_isAnswered 0 [l0, l1, some (.inl x)] st h = zX d tb_X5_isAnswered 1 [l0, l1, some (.inl x)] (.inl x :: st) h := (zX_unf (o := (.iload_n 2, 1, 0, [])) rfl).trans rfl
theorem u_X5_isAnswered_1 {d : Nat} {st : List zV} {h : zH} {l1 l2 : Option zV} {x : (Option Nat)} : zX d tb_X5_isAnswered 1 [some (.inr (.inr x)), l1, l2] st h = zX d tb_X5_isAnswered 2 [some (.inr (.inr x)), l1, l2] (.inr (.inr x) :: st) h := (zX_unf (o := (.aload_n 0, 1, 0, [])) rfl).trans rfl
theorem u_X5_isAnswered_2 {d : Nat} {ls : zL} {st : List zV} {h : zH} {a : Nat} : zX d tb_X5_isAnswered 2 ls (.inr (.inr (some a)) :: st) h = if 5 = (zk h a).1 then zX d tb_X5_isAnswered 5 ls (.inl (zi h a 0) :: st) h else none := (ux_get (t := [(5, 0, 1, "CorpseTales$OldTale", "")]) rfl (by decide)).trans (zfb_1 _ _)
theorem u_X5_isAnswered_5 {d : Nat} {ls : zL} {h : zH} {v0 : Int32} {v1 : Int32} : zX d tb_X5_isAnswered 5 ls [.inl v1, .inl v0] h = (zcall (zP zM) d 82 [.inl v0, .inl v1] h).bind fun q => zX d tb_X5_isAnswered 8 ls (q.1.toList ++ []) q.2 := ux_callS (as := [.inl v0, .inl v1]) (r := []) rfl (n := 2) rfl rfl rfl rfl (Nat.le_of_ble_eq_true rfl)
theorem u_X5_isAnswered_8 {d : Nat} {ls : zL} {st : List zV} {h : zH} {x : Int32} : zX d tb_X5_isAnswered 8 ls (.inl x :: st) h = if x = 0 then zX d tb_X5_isAnswered 11 ls st h else zX d tb_X5_isAnswered 20 ls st h := ux_if_ne rfl rfl
theorem u_X5_isAnswered_11 {d : Nat} {st : List zV} {h : zH} {l1 l2 : Option zV} {x : (Option Nat)} : zX d tb_X5_isAnswered 11 [some (.inr (.inr x)), l1, l2] st h = zX d tb_X5_isAnswered 12 [some (.inr (.inr x)), l1, l2] (.inr (.inr x) :: st) h := (zX_unf (o := (.aload_n 0, 1, 0, [])) rfl).trans rfl
theorem u_X5_isAnswered_12 {d : Nat} {st : List zV} {h : zH} {l0 l2 : Option zV} {x : Int32} : zX d tb_X5_isAnswered 12 [l0, some (.inl x), l2] st h = zX d tb_X5_isAnswered 13 [l0, some (.inl x), l2] (.inl x :: st) h := (zX_unf (o := (.iload_n 1, 1, 0, [])) rfl).trans rfl
theorem u_X5_isAnswered_13 {d : Nat} {st : List zV} {h : zH} {l0 l1 : Option zV} {x : Int32} : zX d tb_X5_isAnswered 13 [l0, l1, some (.inl x)] st h = zX d tb_X5_isAnswered 14 [l0, l1, some (.inl x)] (.inl x :: st) h := (zX_unf (o := (.iload_n 2, 1, 0, [])) rfl).trans rfl
theorem u_X5_isAnswered_14 {d : Nat} {ls : zL} {h : zH} {a : Nat} {v0 : Int32} {v1 : Int32} : zX d tb_X5_isAnswered 14 ls [.inl v1, .inl v0, .inr (.inr (some a))] h = if (zk h a).1 < 12 then (zcall (zP zM) d 2 [.inr (.inr (some a)), .inl v0, .inl v1] h).bind fun q => zX d tb_X5_isAnswered 17 ls (q.1.toList ++ []) q.2 else none := ux_callI (as := [.inl v0, .inl v1]) (r := []) rfl (n := 2) rfl rfl rfl rfl (Nat.le_of_ble_eq_true rfl)
theorem u_X5_isAnswered_17 {d : Nat} {ls : zL} {st : List zV} {h : zH} {x : Int32} : zX d tb_X5_isAnswered 17 ls (.inl x :: st) h = if x = 0 then zX d tb_X5_isAnswered 24 ls st h else zX d tb_X5_isAnswered 20 ls st h := ux_if_eq rfl rfl
theorem u_X5_isAnswered_20 {d : Nat} {ls : zL} {st : List zV} {h : zH} : zX d tb_X5_isAnswered 20 ls st h = zX d tb_X5_isAnswered 21 ls (.inl 1 :: st) h := (zX_unf (o := (.iconst 1, 1, 0, [])) rfl).trans rfl
theorem u_X5_isAnswered_21 {d : Nat} {ls : zL} {st : List zV} {h : zH} : zX d tb_X5_isAnswered 21 ls st h = zX d tb_X5_isAnswered 25 ls st h := (zX_unf (o := (.goto 4, 3, 0, [])) rfl).trans rfl
theorem u_X5_isAnswered_24 {d : Nat} {ls : zL} {st : List zV} {h : zH} : zX d tb_X5_isAnswered 24 ls st h = zX d tb_X5_isAnswered 25 ls (.inl 0 :: st) h := (zX_unf (o := (.iconst 0, 1, 0, [])) rfl).trans rfl
theorem u_X5_isAnswered_25 {d : Nat} {ls : zL} {h : zH} {v : Int32} : zX d tb_X5_isAnswered 25 ls [.inl v] h = if v = 0 ∨ v = 1 then some (some (.inl v), h) else none := ux_zret rfl
theorem e_X5_telling {d : Nat} {h : zH} {v0 : (Option Nat)} {a : Nat} : zcall (zP zM) (d + 1) 27 [.inr (.inr (some a)), .inr (.inr v0)] h = zX d tb_X5_telling 0 [some (.inr (.inr (some a))), some (.inr (.inr v0))] [] h := (zcall_succ _ _ _ _ _).trans (if_pos (Nat.le_of_ble_eq_true rfl))
theorem u_X5_telling_0 {d : Nat} {st : List zV} {h : zH} {l0 : Option zV} {x : (Option Nat)} : zX d tb_X5_telling 0 [l0, some (.inr (.inr x))] st h = zX d tb_X5_telling 1 [l0, some (.inr (.inr x))] (.inr (.inr x) :: st) h := (zX_unf (o := (.aload_n 1, 1, 0, [])) rfl).trans rfl
theorem u_X5_telling_1 {d : Nat} {ls : zL} {st : List zV} {h : zH} : zX d tb_X5_telling 1 ls st h = zX d tb_X5_telling 2 ls (.inl 3 :: st) h := (zX_unf (o := (.iconst 3, 1, 0, [])) rfl).trans rfl
theorem u_X5_telling_2 {d : Nat} {ls : zL} {h : zH} {a : Nat} {v0 : Int32} : zX d tb_X5_telling 2 ls [.inl v0, .inr (.inr (some a))] h = if 9 = (zk h a).1 then (zcall (zP zM) d 50 [.inr (.inr (some a)), .inl v0] h).bind (fun q => zX d tb_X5_telling 5 ls (q.1.toList ++ []) q.2) else none := (ux_callV (t := [(9, 50, 0, "", "")]) (as := [.inl v0]) (r := []) rfl (n := 1) rfl rfl rfl (Nat.le_of_ble_eq_true rfl)).trans (zfb_1 _ _)
theorem u_X5_telling_5 {d : Nat} {st : List zV} {h : zH} {l1 : Option zV} {x : (Option Nat)} : zX d tb_X5_telling 5 [some (.inr (.inr x)), l1] st h = zX d tb_X5_telling 6 [some (.inr (.inr x)), l1] (.inr (.inr x) :: st) h := (zX_unf (o := (.aload_n 0, 1, 0, [])) rfl).trans rfl
theorem u_X5_telling_6 {d : Nat} {st : List zV} {h : zH} {l0 : Option zV} {x : (Option Nat)} : zX d tb_X5_telling 6 [l0, some (.inr (.inr x))] st h = zX d tb_X5_telling 7 [l0, some (.inr (.inr x))] (.inr (.inr x) :: st) h := (zX_unf (o := (.aload_n 1, 1, 0, [])) rfl).trans rfl
theorem u_X5_telling_7 {d : Nat} {ls : zL} {h : zH} {a : Nat} {v0 : (Option Nat)} : zX d tb_X5_telling 7 ls [.inr (.inr v0), .inr (.inr (some a))] h = if (zk h a).1 < 12 then (zcall (zP zM) d 4 [.inr (.inr (some a)), .inr (.inr v0)] h).bind fun q => zX d tb_X5_telling 10 ls (q.1.toList ++ []) q.2 else none := ux_callI (as := [.inr (.inr v0)]) (r := []) rfl (n := 1) rfl rfl rfl rfl (Nat.le_of_ble_eq_true rfl)
theorem u_X5_telling_10 {d : Nat} {st : List zV} {h : zH} {l1 : Option zV} {x : (Option Nat)} : zX d tb_X5_telling 10 [some (.inr (.inr x)), l1] st h = zX d tb_X5_telling 11 [some (.inr (.inr x)), l1] (.inr (.inr x) :: st) h := (zX_unf (o := (.aload_n 0, 1, 0, [])) rfl).trans rfl
theorem u_X5_telling_11 {d : Nat} {st : List zV} {h : zH} {l0 : Option zV} {x : (Option Nat)} : zX d tb_X5_telling 11 [l0, some (.inr (.inr x))] st h = zX d tb_X5_telling 12 [l0, some (.inr (.inr x))] (.inr (.inr x) :: st) h := (zX_unf (o := (.aload_n 1, 1, 0, [])) rfl).trans rfl
theorem u_X5_telling_12 {d : Nat} {ls : zL} {h : zH} {a : Nat} {v0 : (Option Nat)} {r0 : zV} : zX d tb_X5_telling 12 ls [.inr (.inr v0), .inr (.inr (some a)), r0] h = if 5 = (zk h a).1 then (zcall (zP zM) d 47 [.inr (.inr (some a)), .inr (.inr v0)] h).bind (fun q => zX d tb_X5_telling 15 ls (q.1.toList ++ [r0]) q.2) else none := (ux_callV (t := [(5, 47, 1, "CorpseTales$OldTale", "CorpseTales$Tale")]) (as := [.inr (.inr v0)]) (r := [r0]) rfl (n := 1) rfl rfl rfl (Nat.le_of_ble_eq_true rfl)).trans (zfb_1 _ _)
theorem u_X5_telling_15 {d : Nat} {ls : zL} {st : List zV} {h : zH} {x y : Int32} : zX d tb_X5_telling 15 ls (.inl y :: .inl x :: st) h = zX d tb_X5_telling 16 ls (.inl (x + y) :: st) h := (zX_unf (o := (.iadd, 1, 0, [])) rfl).trans rfl
theorem u_X5_telling_16 {d : Nat} {ls : zL} {h : zH} {v : Int32} : zX d tb_X5_telling 16 ls [.inl v] h = some (some (.inl v), h) := (zX_unf (o := (.ireturn, 1, 0, [])) rfl).trans rfl
theorem e_X5_whispering {d : Nat} {h : zH} {v0 : (Option Nat)} {a : Nat} : zcall (zP zM) (d + 1) 28 [.inr (.inr (some a)), .inr (.inr v0)] h = zX d tb_X5_whispering 0 [some (.inr (.inr (some a))), some (.inr (.inr v0))] [] h := (zcall_succ _ _ _ _ _).trans (if_pos (Nat.le_of_ble_eq_true rfl))
theorem u_X5_whispering_0 {d : Nat} {st : List zV} {h : zH} {l0 : Option zV} {x : (Option Nat)} : zX d tb_X5_whispering 0 [l0, some (.inr (.inr x))] st h = zX d tb_X5_whispering 1 [l0, some (.inr (.inr x))] (.inr (.inr x) :: st) h := (zX_unf (o := (.aload_n 1, 1, 0, [])) rfl).trans rfl
theorem u_X5_whispering_1 {d : Nat} {ls : zL} {st : List zV} {h : zH} : zX d tb_X5_whispering 1 ls st h = zX d tb_X5_whispering 2 ls (.inl 5 :: st) h := (zX_unf (o := (.iconst 5, 1, 0, [])) rfl).trans rfl
theorem u_X5_whispering_2 {d : Nat} {ls : zL} {h : zH} {a : Nat} {v0 : Int32} : zX d tb_X5_whispering 2 ls [.inl v0, .inr (.inr (some a))] h = if 9 = (zk h a).1 then (zcall (zP zM) d 50 [.inr (.inr (some a)), .inl v0] h).bind (fun q => zX d tb_X5_whispering 5 ls (q.1.toList ++ []) q.2) else none := (ux_callV (t := [(9, 50, 0, "", "")]) (as := [.inl v0]) (r := []) rfl (n := 1) rfl rfl rfl (Nat.le_of_ble_eq_true rfl)).trans (zfb_1 _ _)
theorem u_X5_whispering_5 {d : Nat} {ls : zL} {st : List zV} {h : zH} : zX d tb_X5_whispering 5 ls st h = zX d tb_X5_whispering 7 ls (.inl 50 :: st) h := (zX_unf (o := (.bipush 50, 2, 0, [])) rfl).trans rfl
theorem u_X5_whispering_7 {d : Nat} {ls : zL} {h : zH} {v : Int32} : zX d tb_X5_whispering 7 ls [.inl v] h = some (some (.inl v), h) := (zX_unf (o := (.ireturn, 1, 0, [])) rfl).trans rfl
theorem e_X6_init {d : Nat} {h : zH} {a : Nat} : zcall (zP zM) (d + 1) 29 [.inr (.inr (some a))] h = zX d tb_X6_init 0 [some (.inr (.inr (some a)))] [] h := (zcall_succ _ _ _ _ _).trans (if_pos (Nat.le_of_ble_eq_true rfl))
theorem u_X6_init_0 {d : Nat} {st : List zV} {h : zH} {x : (Option Nat)} : zX d tb_X6_init 0 [some (.inr (.inr x))] st h = zX d tb_X6_init 1 [some (.inr (.inr x))] (.inr (.inr x) :: st) h := (zX_unf (o := (.aload_n 0, 1, 0, [])) rfl).trans rfl
theorem u_X6_init_1 {d : Nat} {ls : zL} {h : zH} {a : Nat} : zX d tb_X6_init 1 ls [.inr (.inr (some a))] h = zX d tb_X6_init 4 ls [] h := (zX_unf (o := (.invokespecial 3, 3, (-1), [])) rfl).trans rfl
theorem u_X6_init_4 {d : Nat} {st : List zV} {h : zH} {x : (Option Nat)} : zX d tb_X6_init 4 [some (.inr (.inr x))] st h = zX d tb_X6_init 5 [some (.inr (.inr x))] (.inr (.inr x) :: st) h := (zX_unf (o := (.aload_n 0, 1, 0, [])) rfl).trans rfl
theorem u_X6_init_5 {d : Nat} {ls : zL} {st : List zV} {h : zH} : zX d tb_X6_init 5 ls st h = zX d tb_X6_init 6 ls (.inl 0 :: st) h := (zX_unf (o := (.iconst 0, 1, 0, [])) rfl).trans rfl
theorem u_X6_init_6 {d : Nat} {ls : zL} {st : List zV} {h : zH} {a : Nat} {v : Int32} : zX d tb_X6_init 6 ls (.inl v :: .inr (.inr (some a)) :: st) h = if 6 = (zk h a).1 then zX d tb_X6_init 9 ls st (zwI h a 0 v) else none := (ux_put (t := [(6, 0, 0, "", "")]) rfl).trans (zfb_1 _ _)
theorem u_X6_init_9 {d : Nat} {st : List zV} {h : zH} {x : (Option Nat)} : zX d tb_X6_init 9 [some (.inr (.inr x))] st h = zX d tb_X6_init 10 [some (.inr (.inr x))] (.inr (.inr x) :: st) h := (zX_unf (o := (.aload_n 0, 1, 0, [])) rfl).trans rfl
theorem u_X6_init_10 {d : Nat} {ls : zL} {st : List zV} {h : zH} : zX d tb_X6_init 10 ls st h = zX d tb_X6_init 12 ls (.inl 8 :: st) h := (zX_unf (o := (.bipush 8, 2, 0, [])) rfl).trans rfl
theorem u_X6_init_12 {d : Nat} {ls : zL} {st : List zV} {h : zH} {n : Int32} : zX d tb_X6_init 12 ls (.inl n :: st) h = if n < 0 ∨ 1000 < n.toNatClampNeg then none else zX d tb_X6_init 14 ls (.inr (.inr (some (zn h))) :: st) (zN h 12 n.toNatClampNeg n.toNatClampNeg) := ux_newa rfl
theorem u_X6_init_14 {d : Nat} {ls : zL} {st : List zV} {h : zH} {a : Nat} {r : Option Nat} : zX d tb_X6_init 14 ls (.inr (.inr r) :: .inr (.inr (some a)) :: st) h = if 6 = (zk h a).1 then zX d tb_X6_init 17 ls st (zwR h a 1 r) else none := (ux_putr (t := [(6, 1, 0, "", "")]) rfl).trans (zfb_1 _ _)
theorem u_X6_init_17 {d : Nat} {st : List zV} {h : zH} {x : (Option Nat)} : zX d tb_X6_init 17 [some (.inr (.inr x))] st h = zX d tb_X6_init 18 [some (.inr (.inr x))] (.inr (.inr x) :: st) h := (zX_unf (o := (.aload_n 0, 1, 0, [])) rfl).trans rfl
theorem u_X6_init_18 {d : Nat} {ls : zL} {st : List zV} {h : zH} : zX d tb_X6_init 18 ls st h = zX d tb_X6_init 20 ls (.inl 8 :: st) h := (zX_unf (o := (.bipush 8, 2, 0, [])) rfl).trans rfl
theorem u_X6_init_20 {d : Nat} {ls : zL} {st : List zV} {h : zH} {n : Int32} : zX d tb_X6_init 20 ls (.inl n :: st) h = if n < 0 ∨ 1000 < n.toNatClampNeg then none else zX d tb_X6_init 22 ls (.inr (.inr (some (zn h))) :: st) (zN h 12 n.toNatClampNeg n.toNatClampNeg) := ux_newa rfl
theorem u_X6_init_22 {d : Nat} {ls : zL} {st : List zV} {h : zH} {a : Nat} {r : Option Nat} : zX d tb_X6_init 22 ls (.inr (.inr r) :: .inr (.inr (some a)) :: st) h = if 6 = (zk h a).1 then zX d tb_X6_init 25 ls st (zwR h a 2 r) else none := (ux_putr (t := [(6, 2, 0, "", "")]) rfl).trans (zfb_1 _ _)
theorem u_X6_init_25 {d : Nat} {st : List zV} {h : zH} {x : (Option Nat)} : zX d tb_X6_init 25 [some (.inr (.inr x))] st h = zX d tb_X6_init 26 [some (.inr (.inr x))] (.inr (.inr x) :: st) h := (zX_unf (o := (.aload_n 0, 1, 0, [])) rfl).trans rfl
theorem u_X6_init_26 {d : Nat} {ls : zL} {st : List zV} {h : zH} : zX d tb_X6_init 26 ls st h = zX d tb_X6_init 28 ls (.inl 8 :: st) h := (zX_unf (o := (.bipush 8, 2, 0, [])) rfl).trans rfl
theorem u_X6_init_28 {d : Nat} {ls : zL} {st : List zV} {h : zH} {n : Int32} : zX d tb_X6_init 28 ls (.inl n :: st) h = if n < 0 ∨ 1000 < n.toNatClampNeg then none else zX d tb_X6_init 30 ls (.inr (.inr (some (zn h))) :: st) (zN h 12 n.toNatClampNeg n.toNatClampNeg) := ux_newa rfl
theorem u_X6_init_30 {d : Nat} {ls : zL} {st : List zV} {h : zH} {a : Nat} {r : Option Nat} : zX d tb_X6_init 30 ls (.inr (.inr r) :: .inr (.inr (some a)) :: st) h = if 6 = (zk h a).1 then zX d tb_X6_init 33 ls st (zwR h a 3 r) else none := (ux_putr (t := [(6, 3, 0, "", "")]) rfl).trans (zfb_1 _ _)
theorem u_X6_init_33 {d : Nat} {ls : zL} {h : zH} : zX d tb_X6_init 33 ls [] h = some (none, h) := (zX_unf (o := (.return_, 1, 0, [])) rfl).trans rfl
theorem e_X6_add {d : Nat} {h : zH} {v0 : Int32} {v1 : Int32} {v2 : Int32} {a : Nat} : zcall (zP zM) (d + 1) 30 [.inr (.inr (some a)), .inl v0, .inl v1, .inl v2] h = zX d tb_X6_add 0 [some (.inr (.inr (some a))), some (.inl v0), some (.inl v1), some (.inl v2)] [] h := (zcall_succ _ _ _ _ _).trans (if_pos (Nat.le_of_ble_eq_true rfl))
theorem u_X6_add_0 {d : Nat} {st : List zV} {h : zH} {l1 l2 l3 : Option zV} {x : (Option Nat)} : zX d tb_X6_add 0 [some (.inr (.inr x)), l1, l2, l3] st h = zX d tb_X6_add 1 [some (.inr (.inr x)), l1, l2, l3] (.inr (.inr x) :: st) h := (zX_unf (o := (.aload_n 0, 1, 0, [])) rfl).trans rfl
theorem u_X6_add_1 {d : Nat} {ls : zL} {st : List zV} {h : zH} {a : Nat} : zX d tb_X6_add 1 ls (.inr (.inr (some a)) :: st) h = if 6 = (zk h a).1 then zX d tb_X6_add 4 ls (.inl (zi h a 0) :: st) h else none := (ux_get (t := [(6, 0, 0, "", "")]) rfl (by decide)).trans (zfb_1 _ _)
theorem u_X6_add_4 {d : Nat} {ls : zL} {st : List zV} {h : zH} {x : Int32} : zX d tb_X6_add 4 ls (.inl x :: st) h = if x < 0 then zX d tb_X6_add 16 ls st h else zX d tb_X6_add 7 ls st h := ux_if_lt rfl rfl
theorem u_X6_add_7 {d : Nat} {st : List zV} {h : zH} {l1 l2 l3 : Option zV} {x : (Option Nat)} : zX d tb_X6_add 7 [some (.inr (.inr x)), l1, l2, l3] st h = zX d tb_X6_add 8 [some (.inr (.inr x)), l1, l2, l3] (.inr (.inr x) :: st) h := (zX_unf (o := (.aload_n 0, 1, 0, [])) rfl).trans rfl
theorem u_X6_add_8 {d : Nat} {ls : zL} {st : List zV} {h : zH} {a : Nat} : zX d tb_X6_add 8 ls (.inr (.inr (some a)) :: st) h = if 6 = (zk h a).1 then zX d tb_X6_add 11 ls (.inl (zi h a 0) :: st) h else none := (ux_get (t := [(6, 0, 0, "", "")]) rfl (by decide)).trans (zfb_1 _ _)
theorem u_X6_add_11 {d : Nat} {ls : zL} {st : List zV} {h : zH} : zX d tb_X6_add 11 ls st h = zX d tb_X6_add 13 ls (.inl 8 :: st) h := (zX_unf (o := (.bipush 8, 2, 0, [])) rfl).trans rfl
theorem u_X6_add_13 {d : Nat} {ls : zL} {st : List zV} {h : zH} {x y : Int32} : zX d tb_X6_add 13 ls (.inl y :: .inl x :: st) h = if x < y then zX d tb_X6_add 19 ls st h else zX d tb_X6_add 16 ls st h := ux_ic_lt rfl rfl
theorem u_X6_add_16 {d : Nat} {ls : zL} {st : List zV} {h : zH} : zX d tb_X6_add 16 ls st h = zX d tb_X6_add 18 ls (.inl (-4) :: st) h := (zX_unf (o := (.bipush (-4), 2, 0, [])) rfl).trans rfl
theorem u_X6_add_18 {d : Nat} {ls : zL} {h : zH} {v : Int32} : zX d tb_X6_add 18 ls [.inl v] h = some (some (.inl v), h) := (zX_unf (o := (.ireturn, 1, 0, [])) rfl).trans rfl
theorem u_X6_add_19 {d : Nat} {st : List zV} {h : zH} {l1 l2 l3 : Option zV} {x : (Option Nat)} : zX d tb_X6_add 19 [some (.inr (.inr x)), l1, l2, l3] st h = zX d tb_X6_add 20 [some (.inr (.inr x)), l1, l2, l3] (.inr (.inr x) :: st) h := (zX_unf (o := (.aload_n 0, 1, 0, [])) rfl).trans rfl
theorem u_X6_add_20 {d : Nat} {ls : zL} {st : List zV} {h : zH} {a : Nat} : zX d tb_X6_add 20 ls (.inr (.inr (some a)) :: st) h = if 6 = (zk h a).1 then zX d tb_X6_add 23 ls (.inr (.inr (zr h a 1)) :: st) h else none := (ux_getr (t := [(6, 1, 0, "", "")]) rfl).trans (zfb_1 _ _)
theorem u_X6_add_23 {d : Nat} {st : List zV} {h : zH} {l1 l2 l3 : Option zV} {x : (Option Nat)} : zX d tb_X6_add 23 [some (.inr (.inr x)), l1, l2, l3] st h = zX d tb_X6_add 24 [some (.inr (.inr x)), l1, l2, l3] (.inr (.inr x) :: st) h := (zX_unf (o := (.aload_n 0, 1, 0, [])) rfl).trans rfl
theorem u_X6_add_24 {d : Nat} {ls : zL} {st : List zV} {h : zH} {a : Nat} : zX d tb_X6_add 24 ls (.inr (.inr (some a)) :: st) h = if 6 = (zk h a).1 then zX d tb_X6_add 27 ls (.inl (zi h a 0) :: st) h else none := (ux_get (t := [(6, 0, 0, "", "")]) rfl (by decide)).trans (zfb_1 _ _)
theorem u_X6_add_27 {d : Nat} {st : List zV} {h : zH} {l0 l2 l3 : Option zV} {x : Int32} : zX d tb_X6_add 27 [l0, some (.inl x), l2, l3] st h = zX d tb_X6_add 28 [l0, some (.inl x), l2, l3] (.inl x :: st) h := (zX_unf (o := (.iload_n 1, 1, 0, [])) rfl).trans rfl
theorem u_X6_add_28 {d : Nat} {ls : zL} {st : List zV} {h : zH} {a : Nat} {i v : Int32} : zX d tb_X6_add 28 ls (.inl v :: .inl i :: .inr (.inr (some a)) :: st) h = if (zk h a).1 = 12 then (zix i (zk h a).2).bind fun j => zX d tb_X6_add 29 ls st (zwI h a j v) else none := ux_ast rfl
theorem u_X6_add_29 {d : Nat} {st : List zV} {h : zH} {l1 l2 l3 : Option zV} {x : (Option Nat)} : zX d tb_X6_add 29 [some (.inr (.inr x)), l1, l2, l3] st h = zX d tb_X6_add 30 [some (.inr (.inr x)), l1, l2, l3] (.inr (.inr x) :: st) h := (zX_unf (o := (.aload_n 0, 1, 0, [])) rfl).trans rfl
theorem u_X6_add_30 {d : Nat} {ls : zL} {st : List zV} {h : zH} {a : Nat} : zX d tb_X6_add 30 ls (.inr (.inr (some a)) :: st) h = if 6 = (zk h a).1 then zX d tb_X6_add 33 ls (.inr (.inr (zr h a 2)) :: st) h else none := (ux_getr (t := [(6, 2, 0, "", "")]) rfl).trans (zfb_1 _ _)
theorem u_X6_add_33 {d : Nat} {st : List zV} {h : zH} {l1 l2 l3 : Option zV} {x : (Option Nat)} : zX d tb_X6_add 33 [some (.inr (.inr x)), l1, l2, l3] st h = zX d tb_X6_add 34 [some (.inr (.inr x)), l1, l2, l3] (.inr (.inr x) :: st) h := (zX_unf (o := (.aload_n 0, 1, 0, [])) rfl).trans rfl
theorem u_X6_add_34 {d : Nat} {ls : zL} {st : List zV} {h : zH} {a : Nat} : zX d tb_X6_add 34 ls (.inr (.inr (some a)) :: st) h = if 6 = (zk h a).1 then zX d tb_X6_add 37 ls (.inl (zi h a 0) :: st) h else none := (ux_get (t := [(6, 0, 0, "", "")]) rfl (by decide)).trans (zfb_1 _ _)
theorem u_X6_add_37 {d : Nat} {st : List zV} {h : zH} {l0 l1 l3 : Option zV} {x : Int32} : zX d tb_X6_add 37 [l0, l1, some (.inl x), l3] st h = zX d tb_X6_add 38 [l0, l1, some (.inl x), l3] (.inl x :: st) h := (zX_unf (o := (.iload_n 2, 1, 0, [])) rfl).trans rfl
theorem u_X6_add_38 {d : Nat} {ls : zL} {st : List zV} {h : zH} {a : Nat} {i v : Int32} : zX d tb_X6_add 38 ls (.inl v :: .inl i :: .inr (.inr (some a)) :: st) h = if (zk h a).1 = 12 then (zix i (zk h a).2).bind fun j => zX d tb_X6_add 39 ls st (zwI h a j v) else none := ux_ast rfl
theorem u_X6_add_39 {d : Nat} {st : List zV} {h : zH} {l1 l2 l3 : Option zV} {x : (Option Nat)} : zX d tb_X6_add 39 [some (.inr (.inr x)), l1, l2, l3] st h = zX d tb_X6_add 40 [some (.inr (.inr x)), l1, l2, l3] (.inr (.inr x) :: st) h := (zX_unf (o := (.aload_n 0, 1, 0, [])) rfl).trans rfl
theorem u_X6_add_40 {d : Nat} {ls : zL} {st : List zV} {h : zH} {a : Nat} : zX d tb_X6_add 40 ls (.inr (.inr (some a)) :: st) h = if 6 = (zk h a).1 then zX d tb_X6_add 43 ls (.inr (.inr (zr h a 3)) :: st) h else none := (ux_getr (t := [(6, 3, 0, "", "")]) rfl).trans (zfb_1 _ _)
theorem u_X6_add_43 {d : Nat} {st : List zV} {h : zH} {l1 l2 l3 : Option zV} {x : (Option Nat)} : zX d tb_X6_add 43 [some (.inr (.inr x)), l1, l2, l3] st h = zX d tb_X6_add 44 [some (.inr (.inr x)), l1, l2, l3] (.inr (.inr x) :: st) h := (zX_unf (o := (.aload_n 0, 1, 0, [])) rfl).trans rfl
theorem u_X6_add_44 {d : Nat} {ls : zL} {st : List zV} {h : zH} {a : Nat} : zX d tb_X6_add 44 ls (.inr (.inr (some a)) :: st) h = if 6 = (zk h a).1 then zX d tb_X6_add 47 ls (.inl (zi h a 0) :: st) h else none := (ux_get (t := [(6, 0, 0, "", "")]) rfl (by decide)).trans (zfb_1 _ _)
theorem u_X6_add_47 {d : Nat} {st : List zV} {h : zH} {l0 l1 l2 : Option zV} {x : Int32} : zX d tb_X6_add 47 [l0, l1, l2, some (.inl x)] st h = zX d tb_X6_add 48 [l0, l1, l2, some (.inl x)] (.inl x :: st) h := (zX_unf (o := (.iload_n 3, 1, 0, [])) rfl).trans rfl
theorem u_X6_add_48 {d : Nat} {ls : zL} {st : List zV} {h : zH} {a : Nat} {i v : Int32} : zX d tb_X6_add 48 ls (.inl v :: .inl i :: .inr (.inr (some a)) :: st) h = if (zk h a).1 = 12 then (zix i (zk h a).2).bind fun j => zX d tb_X6_add 49 ls st (zwI h a j v) else none := ux_ast rfl
theorem u_X6_add_49 {d : Nat} {st : List zV} {h : zH} {l1 l2 l3 : Option zV} {x : (Option Nat)} : zX d tb_X6_add 49 [some (.inr (.inr x)), l1, l2, l3] st h = zX d tb_X6_add 50 [some (.inr (.inr x)), l1, l2, l3] (.inr (.inr x) :: st) h := (zX_unf (o := (.aload_n 0, 1, 0, [])) rfl).trans rfl
theorem u_X6_add_50 {d : Nat} {ls : zL} {st : List zV} {h : zH} {x : (Option Nat)} : zX d tb_X6_add 50 ls (.inr (.inr x) :: st) h = zX d tb_X6_add 51 ls (.inr (.inr x) :: .inr (.inr x) :: st) h := (zX_unf (o := (.dup, 1, 0, [])) rfl).trans rfl
theorem u_X6_add_50i {d : Nat} {ls : zL} {st : List zV} {h : zH} {x : Int32} : zX d tb_X6_add 50 ls (.inl x :: st) h = zX d tb_X6_add 51 ls (.inl x :: .inl x :: st) h := (zX_unf (o := (.dup, 1, 0, [])) rfl).trans rfl
theorem u_X6_add_51 {d : Nat} {ls : zL} {st : List zV} {h : zH} {a : Nat} : zX d tb_X6_add 51 ls (.inr (.inr (some a)) :: st) h = if 6 = (zk h a).1 then zX d tb_X6_add 54 ls (.inl (zi h a 0) :: st) h else none := (ux_get (t := [(6, 0, 0, "", "")]) rfl (by decide)).trans (zfb_1 _ _)
theorem u_X6_add_54 {d : Nat} {ls : zL} {st : List zV} {h : zH} : zX d tb_X6_add 54 ls st h = zX d tb_X6_add 55 ls (.inl 1 :: st) h := (zX_unf (o := (.iconst 1, 1, 0, [])) rfl).trans rfl
theorem u_X6_add_55 {d : Nat} {ls : zL} {st : List zV} {h : zH} {x y : Int32} : zX d tb_X6_add 55 ls (.inl y :: .inl x :: st) h = zX d tb_X6_add 56 ls (.inl (x + y) :: st) h := (zX_unf (o := (.iadd, 1, 0, [])) rfl).trans rfl
theorem u_X6_add_56 {d : Nat} {ls : zL} {st : List zV} {h : zH} {a : Nat} {v : Int32} : zX d tb_X6_add 56 ls (.inl v :: .inr (.inr (some a)) :: st) h = if 6 = (zk h a).1 then zX d tb_X6_add 59 ls st (zwI h a 0 v) else none := (ux_put (t := [(6, 0, 0, "", "")]) rfl).trans (zfb_1 _ _)
theorem u_X6_add_59 {d : Nat} {st : List zV} {h : zH} {l1 l2 l3 : Option zV} {x : (Option Nat)} : zX d tb_X6_add 59 [some (.inr (.inr x)), l1, l2, l3] st h = zX d tb_X6_add 60 [some (.inr (.inr x)), l1, l2, l3] (.inr (.inr x) :: st) h := (zX_unf (o := (.aload_n 0, 1, 0, [])) rfl).trans rfl
theorem u_X6_add_60 {d : Nat} {ls : zL} {st : List zV} {h : zH} {a : Nat} : zX d tb_X6_add 60 ls (.inr (.inr (some a)) :: st) h = if 6 = (zk h a).1 then zX d tb_X6_add 63 ls (.inl (zi h a 0) :: st) h else none := (ux_get (t := [(6, 0, 0, "", "")]) rfl (by decide)).trans (zfb_1 _ _)
theorem u_X6_add_63 {d : Nat} {ls : zL} {st : List zV} {h : zH} : zX d tb_X6_add 63 ls st h = zX d tb_X6_add 64 ls (.inl 1 :: st) h := (zX_unf (o := (.iconst 1, 1, 0, [])) rfl).trans rfl
theorem u_X6_add_64 {d : Nat} {ls : zL} {st : List zV} {h : zH} {x y : Int32} : zX d tb_X6_add 64 ls (.inl y :: .inl x :: st) h = zX d tb_X6_add 65 ls (.inl (x - y) :: st) h := (zX_unf (o := (.isub, 1, 0, [])) rfl).trans rfl
theorem u_X6_add_65 {d : Nat} {ls : zL} {h : zH} {v : Int32} : zX d tb_X6_add 65 ls [.inl v] h = some (some (.inl v), h) := (zX_unf (o := (.ireturn, 1, 0, [])) rfl).trans rfl
theorem e_X7_init {d : Nat} {h : zH} {a : Nat} : zcall (zP zM) (d + 1) 31 [.inr (.inr (some a))] h = zX d tb_X7_init 0 [some (.inr (.inr (some a)))] [] h := (zcall_succ _ _ _ _ _).trans (if_pos (Nat.le_of_ble_eq_true rfl))
theorem u_X7_init_0 {d : Nat} {st : List zV} {h : zH} {x : (Option Nat)} : zX d tb_X7_init 0 [some (.inr (.inr x))] st h = zX d tb_X7_init 1 [some (.inr (.inr x))] (.inr (.inr x) :: st) h := (zX_unf (o := (.aload_n 0, 1, 0, [])) rfl).trans rfl
theorem u_X7_init_1 {d : Nat} {ls : zL} {h : zH} {a : Nat} : zX d tb_X7_init 1 ls [.inr (.inr (some a))] h = zX d tb_X7_init 4 ls [] h := (zX_unf (o := (.invokespecial 3, 3, (-1), [])) rfl).trans rfl
theorem u_X7_init_4 {d : Nat} {st : List zV} {h : zH} {x : (Option Nat)} : zX d tb_X7_init 4 [some (.inr (.inr x))] st h = zX d tb_X7_init 5 [some (.inr (.inr x))] (.inr (.inr x) :: st) h := (zX_unf (o := (.aload_n 0, 1, 0, [])) rfl).trans rfl
theorem u_X7_init_5 {d : Nat} {ls : zL} {st : List zV} {h : zH} : zX d tb_X7_init 5 ls st h = zX d tb_X7_init 7 ls (.inl (-9) :: st) h := (zX_unf (o := (.bipush (-9), 2, 0, [])) rfl).trans rfl
theorem u_X7_init_7 {d : Nat} {ls : zL} {st : List zV} {h : zH} {a : Nat} {v : Int32} : zX d tb_X7_init 7 ls (.inl v :: .inr (.inr (some a)) :: st) h = if 7 = (zk h a).1 then zX d tb_X7_init 10 ls st (zwI h a 0 v) else none := (ux_put (t := [(7, 0, 0, "", "")]) rfl).trans (zfb_1 _ _)
theorem u_X7_init_10 {d : Nat} {st : List zV} {h : zH} {x : (Option Nat)} : zX d tb_X7_init 10 [some (.inr (.inr x))] st h = zX d tb_X7_init 11 [some (.inr (.inr x))] (.inr (.inr x) :: st) h := (zX_unf (o := (.aload_n 0, 1, 0, [])) rfl).trans rfl
theorem u_X7_init_11 {d : Nat} {ls : zL} {st : List zV} {h : zH} : zX d tb_X7_init 11 ls st h = zX d tb_X7_init 12 ls (.inl 0 :: st) h := (zX_unf (o := (.iconst 0, 1, 0, [])) rfl).trans rfl
theorem u_X7_init_12 {d : Nat} {ls : zL} {st : List zV} {h : zH} {a : Nat} {v : Int32} : zX d tb_X7_init 12 ls (.inl v :: .inr (.inr (some a)) :: st) h = if 7 = (zk h a).1 then zX d tb_X7_init 15 ls st (zwI h a 1 v) else none := (ux_put (t := [(7, 1, 0, "", "")]) rfl).trans (zfb_1 _ _)
theorem u_X7_init_15 {d : Nat} {st : List zV} {h : zH} {x : (Option Nat)} : zX d tb_X7_init 15 [some (.inr (.inr x))] st h = zX d tb_X7_init 16 [some (.inr (.inr x))] (.inr (.inr x) :: st) h := (zX_unf (o := (.aload_n 0, 1, 0, [])) rfl).trans rfl
theorem u_X7_init_16 {d : Nat} {ls : zL} {st : List zV} {h : zH} : zX d tb_X7_init 16 ls st h = zX d tb_X7_init 18 ls (.inl 60 :: st) h := (zX_unf (o := (.bipush 60, 2, 0, [])) rfl).trans rfl
theorem u_X7_init_18 {d : Nat} {ls : zL} {st : List zV} {h : zH} {n : Int32} : zX d tb_X7_init 18 ls (.inl n :: st) h = if n < 0 ∨ 1000 < n.toNatClampNeg then none else zX d tb_X7_init 20 ls (.inr (.inr (some (zn h))) :: st) (zN h 12 n.toNatClampNeg n.toNatClampNeg) := ux_newa rfl
theorem u_X7_init_20 {d : Nat} {ls : zL} {st : List zV} {h : zH} {a : Nat} {r : Option Nat} : zX d tb_X7_init 20 ls (.inr (.inr r) :: .inr (.inr (some a)) :: st) h = if 7 = (zk h a).1 then zX d tb_X7_init 23 ls st (zwR h a 2 r) else none := (ux_putr (t := [(7, 2, 0, "", "")]) rfl).trans (zfb_1 _ _)
theorem u_X7_init_23 {d : Nat} {ls : zL} {h : zH} : zX d tb_X7_init 23 ls [] h = some (none, h) := (zX_unf (o := (.return_, 1, 0, [])) rfl).trans rfl
theorem e_X7_isNothing {d : Nat} {h : zH} {a : Nat} : zcall (zP zM) (d + 1) 32 [.inr (.inr (some a))] h = zX d tb_X7_isNothing 0 [some (.inr (.inr (some a)))] [] h := (zcall_succ _ _ _ _ _).trans (if_pos (Nat.le_of_ble_eq_true rfl))
theorem u_X7_isNothing_0 {d : Nat} {st : List zV} {h : zH} {x : (Option Nat)} : zX d tb_X7_isNothing 0 [some (.inr (.inr x))] st h = zX d tb_X7_isNothing 1 [some (.inr (.inr x))] (.inr (.inr x) :: st) h := (zX_unf (o := (.aload_n 0, 1, 0, [])) rfl).trans rfl
theorem u_X7_isNothing_1 {d : Nat} {ls : zL} {st : List zV} {h : zH} {a : Nat} : zX d tb_X7_isNothing 1 ls (.inr (.inr (some a)) :: st) h = if 7 = (zk h a).1 then zX d tb_X7_isNothing 4 ls (.inl (zi h a 0) :: st) h else none := (ux_get (t := [(7, 0, 0, "", "")]) rfl (by decide)).trans (zfb_1 _ _)
theorem u_X7_isNothing_4 {d : Nat} {ls : zL} {st : List zV} {h : zH} : zX d tb_X7_isNothing 4 ls st h = zX d tb_X7_isNothing 6 ls (.inl (-9) :: st) h := (zX_unf (o := (.bipush (-9), 2, 0, [])) rfl).trans rfl
theorem u_X7_isNothing_6 {d : Nat} {ls : zL} {st : List zV} {h : zH} {x y : Int32} : zX d tb_X7_isNothing 6 ls (.inl y :: .inl x :: st) h = if x = y then zX d tb_X7_isNothing 9 ls st h else zX d tb_X7_isNothing 13 ls st h := ux_ic_ne rfl rfl
theorem u_X7_isNothing_9 {d : Nat} {ls : zL} {st : List zV} {h : zH} : zX d tb_X7_isNothing 9 ls st h = zX d tb_X7_isNothing 10 ls (.inl 1 :: st) h := (zX_unf (o := (.iconst 1, 1, 0, [])) rfl).trans rfl
theorem u_X7_isNothing_10 {d : Nat} {ls : zL} {st : List zV} {h : zH} : zX d tb_X7_isNothing 10 ls st h = zX d tb_X7_isNothing 14 ls st h := (zX_unf (o := (.goto 4, 3, 0, [])) rfl).trans rfl
theorem u_X7_isNothing_13 {d : Nat} {ls : zL} {st : List zV} {h : zH} : zX d tb_X7_isNothing 13 ls st h = zX d tb_X7_isNothing 14 ls (.inl 0 :: st) h := (zX_unf (o := (.iconst 0, 1, 0, [])) rfl).trans rfl
theorem u_X7_isNothing_14 {d : Nat} {ls : zL} {h : zH} {v : Int32} : zX d tb_X7_isNothing 14 ls [.inl v] h = if v = 0 ∨ v = 1 then some (some (.inl v), h) else none := ux_zret rfl
theorem e_X7_clear {d : Nat} {h : zH} {a : Nat} : zcall (zP zM) (d + 1) 33 [.inr (.inr (some a))] h = zX d tb_X7_clear 0 [some (.inr (.inr (some a)))] [] h := (zcall_succ _ _ _ _ _).trans (if_pos (Nat.le_of_ble_eq_true rfl))
theorem u_X7_clear_0 {d : Nat} {st : List zV} {h : zH} {x : (Option Nat)} : zX d tb_X7_clear 0 [some (.inr (.inr x))] st h = zX d tb_X7_clear 1 [some (.inr (.inr x))] (.inr (.inr x) :: st) h := (zX_unf (o := (.aload_n 0, 1, 0, [])) rfl).trans rfl
theorem u_X7_clear_1 {d : Nat} {ls : zL} {st : List zV} {h : zH} : zX d tb_X7_clear 1 ls st h = zX d tb_X7_clear 3 ls (.inl (-9) :: st) h := (zX_unf (o := (.bipush (-9), 2, 0, [])) rfl).trans rfl
theorem u_X7_clear_3 {d : Nat} {ls : zL} {st : List zV} {h : zH} {a : Nat} {v : Int32} : zX d tb_X7_clear 3 ls (.inl v :: .inr (.inr (some a)) :: st) h = if 7 = (zk h a).1 then zX d tb_X7_clear 6 ls st (zwI h a 0 v) else none := (ux_put (t := [(7, 0, 0, "", "")]) rfl).trans (zfb_1 _ _)
theorem u_X7_clear_6 {d : Nat} {st : List zV} {h : zH} {x : (Option Nat)} : zX d tb_X7_clear 6 [some (.inr (.inr x))] st h = zX d tb_X7_clear 7 [some (.inr (.inr x))] (.inr (.inr x) :: st) h := (zX_unf (o := (.aload_n 0, 1, 0, [])) rfl).trans rfl
theorem u_X7_clear_7 {d : Nat} {ls : zL} {st : List zV} {h : zH} : zX d tb_X7_clear 7 ls st h = zX d tb_X7_clear 8 ls (.inl 0 :: st) h := (zX_unf (o := (.iconst 0, 1, 0, [])) rfl).trans rfl
theorem u_X7_clear_8 {d : Nat} {ls : zL} {st : List zV} {h : zH} {a : Nat} {v : Int32} : zX d tb_X7_clear 8 ls (.inl v :: .inr (.inr (some a)) :: st) h = if 7 = (zk h a).1 then zX d tb_X7_clear 11 ls st (zwI h a 1 v) else none := (ux_put (t := [(7, 1, 0, "", "")]) rfl).trans (zfb_1 _ _)
theorem u_X7_clear_11 {d : Nat} {ls : zL} {h : zH} : zX d tb_X7_clear 11 ls [] h = some (none, h) := (zX_unf (o := (.return_, 1, 0, [])) rfl).trans rfl
end
