section
-- ===== PART A: goes FIRST, ahead of the names: the tables' words, and 'selects' of the private methods out of them =====
/-- a private method of a class that the tables say can be made, by its rows of tables_1 -/
def lw_okq (q : MethodName × Nat) : Prop := (q.1.cls ≠ "java/lang/invoke/MethodHandle" ∧ q.1.cls ≠ "java/lang/invoke/VarHandle") ∧ Cond.instantiable q.1.cls q.2 ∈ tables_1 ∧ Cond.privateMethod q.1 ∈ tables_1 ∧ Cond.instanceMethod q.1 ∈ tables_1
theorem lw_p0 : lw_okq (⟨"CorpseTales", "sheetAt", "(I)LCorpseTales$Sheet;"⟩, 12) := ⟨⟨by decide +kernel, by decide +kernel⟩, List.mem_of_getElem? (i := 18) (by decide +kernel), List.mem_of_getElem? (i := 230) (by decide +kernel), List.mem_of_getElem? (i := 231) (by decide +kernel)⟩
theorem lw_p1 : lw_okq (⟨"CorpseTales", "failing", "(I)I"⟩, 12) := ⟨⟨by decide +kernel, by decide +kernel⟩, List.mem_of_getElem? (i := 18) (by decide +kernel), List.mem_of_getElem? (i := 253) (by decide +kernel), List.mem_of_getElem? (i := 254) (by decide +kernel)⟩
theorem lw_p2 : lw_okq (⟨"CorpseTales", "takeOrder", "(IIIII)I"⟩, 12) := ⟨⟨by decide +kernel, by decide +kernel⟩, List.mem_of_getElem? (i := 18) (by decide +kernel), List.mem_of_getElem? (i := 397) (by decide +kernel), List.mem_of_getElem? (i := 398) (by decide +kernel)⟩
theorem lw_p3 : lw_okq (⟨"CorpseTales", "passNight", "(I)V"⟩, 12) := ⟨⟨by decide +kernel, by decide +kernel⟩, List.mem_of_getElem? (i := 18) (by decide +kernel), List.mem_of_getElem? (i := 402) (by decide +kernel), List.mem_of_getElem? (i := 403) (by decide +kernel)⟩
theorem lw_p4 : lw_okq (⟨"CorpseTales$Night", "walk", "(I)V"⟩, 8) := ⟨⟨by decide +kernel, by decide +kernel⟩, List.mem_of_getElem? (i := 86) (by decide +kernel), List.mem_of_getElem? (i := 414) (by decide +kernel), List.mem_of_getElem? (i := 415) (by decide +kernel)⟩
theorem lw_p5 : lw_okq (⟨"CorpseTales$Never", "goOn", "(LCorpseTales$Forest;II)V"⟩, 5) := ⟨⟨by decide +kernel, by decide +kernel⟩, List.mem_of_getElem? (i := 127) (by decide +kernel), List.mem_of_getElem? (i := 443) (by decide +kernel), List.mem_of_getElem? (i := 444) (by decide +kernel)⟩
theorem lw_p6 : lw_okq (⟨"CorpseTales$Game", "leastFar", "(LCorpseTales$Forest;III)I"⟩, 2) := ⟨⟨by decide +kernel, by decide +kernel⟩, List.mem_of_getElem? (i := 158) (by decide +kernel), List.mem_of_getElem? (i := 474) (by decide +kernel), List.mem_of_getElem? (i := 475) (by decide +kernel)⟩
theorem lw_p7 : lw_okq (⟨"CorpseTales$Game", "mostFar", "(LCorpseTales$Forest;IIII)I"⟩, 2) := ⟨⟨by decide +kernel, by decide +kernel⟩, List.mem_of_getElem? (i := 158) (by decide +kernel), List.mem_of_getElem? (i := 479) (by decide +kernel), List.mem_of_getElem? (i := 480) (by decide +kernel)⟩
theorem lw_p8 : lw_okq (⟨"CorpseTales", "fitsReadings", "(I)Z"⟩, 12) := ⟨⟨by decide +kernel, by decide +kernel⟩, List.mem_of_getElem? (i := 18) (by decide +kernel), List.mem_of_getElem? (i := 517) (by decide +kernel), List.mem_of_getElem? (i := 518) (by decide +kernel)⟩
theorem lw_p9 : lw_okq (⟨"CorpseTalesModel", "refused", "(I)I"⟩, 43) := ⟨⟨by decide +kernel, by decide +kernel⟩, List.mem_of_getElem? (i := 627) (by decide +kernel), List.mem_of_getElem? (i := 774) (by decide +kernel), List.mem_of_getElem? (i := 775) (by decide +kernel)⟩
theorem lw_p10 : lw_okq (⟨"CorpseTalesModel", "cellsBarred", "(IIIJ)I"⟩, 43) := ⟨⟨by decide +kernel, by decide +kernel⟩, List.mem_of_getElem? (i := 627) (by decide +kernel), List.mem_of_getElem? (i := 779) (by decide +kernel), List.mem_of_getElem? (i := 780) (by decide +kernel)⟩
theorem lw_p11 : lw_okq (⟨"CorpseTalesModel", "failed", "(I)I"⟩, 43) := ⟨⟨by decide +kernel, by decide +kernel⟩, List.mem_of_getElem? (i := 627) (by decide +kernel), List.mem_of_getElem? (i := 783) (by decide +kernel), List.mem_of_getElem? (i := 784) (by decide +kernel)⟩
theorem lw_p12 : lw_okq (⟨"CorpseTalesModel", "readsForest", "(II)Z"⟩, 43) := ⟨⟨by decide +kernel, by decide +kernel⟩, List.mem_of_getElem? (i := 627) (by decide +kernel), List.mem_of_getElem? (i := 790) (by decide +kernel), List.mem_of_getElem? (i := 791) (by decide +kernel)⟩
theorem lw_p13 : lw_okq (⟨"CorpseTalesModel", "codeAt", "(II)I"⟩, 43) := ⟨⟨by decide +kernel, by decide +kernel⟩, List.mem_of_getElem? (i := 627) (by decide +kernel), List.mem_of_getElem? (i := 794) (by decide +kernel), List.mem_of_getElem? (i := 795) (by decide +kernel)⟩
theorem lw_p14 : lw_okq (⟨"CorpseTalesModel", "figure", "(IIII)I"⟩, 43) := ⟨⟨by decide +kernel, by decide +kernel⟩, List.mem_of_getElem? (i := 627) (by decide +kernel), List.mem_of_getElem? (i := 798) (by decide +kernel), List.mem_of_getElem? (i := 799) (by decide +kernel)⟩
theorem lw_p15 : lw_okq (⟨"CorpseTalesModel", "readsTale", "(II)Z"⟩, 43) := ⟨⟨by decide +kernel, by decide +kernel⟩, List.mem_of_getElem? (i := 627) (by decide +kernel), List.mem_of_getElem? (i := 802) (by decide +kernel), List.mem_of_getElem? (i := 803) (by decide +kernel)⟩
def lw_privs_1 : List (MethodName × Nat) := [(⟨"CorpseTales", "sheetAt", "(I)LCorpseTales$Sheet;"⟩, 12), (⟨"CorpseTales", "failing", "(I)I"⟩, 12), (⟨"CorpseTales", "takeOrder", "(IIIII)I"⟩, 12), (⟨"CorpseTales", "passNight", "(I)V"⟩, 12), (⟨"CorpseTales$Night", "walk", "(I)V"⟩, 8), (⟨"CorpseTales$Never", "goOn", "(LCorpseTales$Forest;II)V"⟩, 5), (⟨"CorpseTales$Game", "leastFar", "(LCorpseTales$Forest;III)I"⟩, 2), (⟨"CorpseTales$Game", "mostFar", "(LCorpseTales$Forest;IIII)I"⟩, 2), (⟨"CorpseTales", "fitsReadings", "(I)Z"⟩, 12), (⟨"CorpseTalesModel", "refused", "(I)I"⟩, 43), (⟨"CorpseTalesModel", "cellsBarred", "(IIIJ)I"⟩, 43), (⟨"CorpseTalesModel", "failed", "(I)I"⟩, 43), (⟨"CorpseTalesModel", "readsForest", "(II)Z"⟩, 43), (⟨"CorpseTalesModel", "codeAt", "(II)I"⟩, 43), (⟨"CorpseTalesModel", "figure", "(IIII)I"⟩, 43), (⟨"CorpseTalesModel", "readsTale", "(II)Z"⟩, 43)]
theorem lw_r1 : ∀ q ∈ lw_privs_1, lw_okq q := List.forall_mem_cons.mpr ⟨lw_p0, List.forall_mem_cons.mpr ⟨lw_p1, List.forall_mem_cons.mpr ⟨lw_p2, List.forall_mem_cons.mpr ⟨lw_p3, List.forall_mem_cons.mpr ⟨lw_p4, List.forall_mem_cons.mpr ⟨lw_p5, List.forall_mem_cons.mpr ⟨lw_p6, List.forall_mem_cons.mpr ⟨lw_p7, List.forall_mem_cons.mpr ⟨lw_p8, List.forall_mem_cons.mpr ⟨lw_p9, List.forall_mem_cons.mpr ⟨lw_p10, List.forall_mem_cons.mpr ⟨lw_p11, List.forall_mem_cons.mpr ⟨lw_p12, List.forall_mem_cons.mpr ⟨lw_p13, List.forall_mem_cons.mpr ⟨lw_p14, List.forall_mem_cons.mpr ⟨lw_p15, fun _ h => absurd h List.not_mem_nil⟩⟩⟩⟩⟩⟩⟩⟩⟩⟩⟩⟩⟩⟩⟩⟩
theorem lw_p16 : lw_okq (⟨"CorpseTalesModel", "noTale", "(I)Z"⟩, 43) := ⟨⟨by decide +kernel, by decide +kernel⟩, List.mem_of_getElem? (i := 627) (by decide +kernel), List.mem_of_getElem? (i := 810) (by decide +kernel), List.mem_of_getElem? (i := 811) (by decide +kernel)⟩
theorem lw_p17 : lw_okq (⟨"CorpseTalesModel", "hasAnswer", "(III)Z"⟩, 43) := ⟨⟨by decide +kernel, by decide +kernel⟩, List.mem_of_getElem? (i := 627) (by decide +kernel), List.mem_of_getElem? (i := 814) (by decide +kernel), List.mem_of_getElem? (i := 815) (by decide +kernel)⟩
theorem lw_p18 : lw_okq (⟨"CorpseTalesModel", "orderBarred", "(IIII)I"⟩, 43) := ⟨⟨by decide +kernel, by decide +kernel⟩, List.mem_of_getElem? (i := 627) (by decide +kernel), List.mem_of_getElem? (i := 834) (by decide +kernel), List.mem_of_getElem? (i := 835) (by decide +kernel)⟩
theorem lw_p19 : lw_okq (⟨"CorpseTalesModel", "goOrder", "(III)V"⟩, 43) := ⟨⟨by decide +kernel, by decide +kernel⟩, List.mem_of_getElem? (i := 627) (by decide +kernel), List.mem_of_getElem? (i := 838) (by decide +kernel), List.mem_of_getElem? (i := 839) (by decide +kernel)⟩
theorem lw_p20 : lw_okq (⟨"CorpseTalesModel", "beginNight", "(I)V"⟩, 43) := ⟨⟨by decide +kernel, by decide +kernel⟩, List.mem_of_getElem? (i := 627) (by decide +kernel), List.mem_of_getElem? (i := 842) (by decide +kernel), List.mem_of_getElem? (i := 843) (by decide +kernel)⟩
theorem lw_p21 : lw_okq (⟨"CorpseTalesModel", "goHeard", "(I)V"⟩, 43) := ⟨⟨by decide +kernel, by decide +kernel⟩, List.mem_of_getElem? (i := 627) (by decide +kernel), List.mem_of_getElem? (i := 846) (by decide +kernel), List.mem_of_getElem? (i := 847) (by decide +kernel)⟩
theorem lw_p22 : lw_okq (⟨"CorpseTalesModel", "goTale", "(I)Z"⟩, 43) := ⟨⟨by decide +kernel, by decide +kernel⟩, List.mem_of_getElem? (i := 627) (by decide +kernel), List.mem_of_getElem? (i := 850) (by decide +kernel), List.mem_of_getElem? (i := 851) (by decide +kernel)⟩
theorem lw_p23 : lw_okq (⟨"CorpseTalesModel", "goSteps", "(I)V"⟩, 43) := ⟨⟨by decide +kernel, by decide +kernel⟩, List.mem_of_getElem? (i := 627) (by decide +kernel), List.mem_of_getElem? (i := 854) (by decide +kernel), List.mem_of_getElem? (i := 855) (by decide +kernel)⟩
theorem lw_p24 : lw_okq (⟨"CorpseTalesModel", "seekNever", "(I)V"⟩, 43) := ⟨⟨by decide +kernel, by decide +kernel⟩, List.mem_of_getElem? (i := 627) (by decide +kernel), List.mem_of_getElem? (i := 869) (by decide +kernel), List.mem_of_getElem? (i := 870) (by decide +kernel)⟩
theorem lw_p25 : lw_okq (⟨"CorpseTalesModel", "isUsed", "(II)Z"⟩, 43) := ⟨⟨by decide +kernel, by decide +kernel⟩, List.mem_of_getElem? (i := 627) (by decide +kernel), List.mem_of_getElem? (i := 873) (by decide +kernel), List.mem_of_getElem? (i := 874) (by decide +kernel)⟩
theorem lw_p26 : lw_okq (⟨"CorpseTalesModel", "lookAtRow", "(I)V"⟩, 43) := ⟨⟨by decide +kernel, by decide +kernel⟩, List.mem_of_getElem? (i := 627) (by decide +kernel), List.mem_of_getElem? (i := 877) (by decide +kernel), List.mem_of_getElem? (i := 878) (by decide +kernel)⟩
theorem lw_p27 : lw_okq (⟨"CorpseTalesModel", "play", "(I)I"⟩, 43) := ⟨⟨by decide +kernel, by decide +kernel⟩, List.mem_of_getElem? (i := 627) (by decide +kernel), List.mem_of_getElem? (i := 892) (by decide +kernel), List.mem_of_getElem? (i := 893) (by decide +kernel)⟩
theorem lw_p28 : lw_okq (⟨"CorpseTalesModel", "nextWay", "(I)I"⟩, 43) := ⟨⟨by decide +kernel, by decide +kernel⟩, List.mem_of_getElem? (i := 627) (by decide +kernel), List.mem_of_getElem? (i := 896) (by decide +kernel), List.mem_of_getElem? (i := 897) (by decide +kernel)⟩
theorem lw_p29 : lw_okq (⟨"CorpseTalesModel", "goWay", "(I)V"⟩, 43) := ⟨⟨by decide +kernel, by decide +kernel⟩, List.mem_of_getElem? (i := 627) (by decide +kernel), List.mem_of_getElem? (i := 900) (by decide +kernel), List.mem_of_getElem? (i := 901) (by decide +kernel)⟩
theorem lw_p30 : lw_okq (⟨"CorpseTalesModel", "areSo", "(I)Z"⟩, 43) := ⟨⟨by decide +kernel, by decide +kernel⟩, List.mem_of_getElem? (i := 627) (by decide +kernel), List.mem_of_getElem? (i := 930) (by decide +kernel), List.mem_of_getElem? (i := 931) (by decide +kernel)⟩
theorem lw_p31 : lw_okq (⟨"CorpseTalesModel", "noCell", "(II)I"⟩, 43) := ⟨⟨by decide +kernel, by decide +kernel⟩, List.mem_of_getElem? (i := 627) (by decide +kernel), List.mem_of_getElem? (i := 946) (by decide +kernel), List.mem_of_getElem? (i := 947) (by decide +kernel)⟩
def lw_privs_2 : List (MethodName × Nat) := [(⟨"CorpseTalesModel", "noTale", "(I)Z"⟩, 43), (⟨"CorpseTalesModel", "hasAnswer", "(III)Z"⟩, 43), (⟨"CorpseTalesModel", "orderBarred", "(IIII)I"⟩, 43), (⟨"CorpseTalesModel", "goOrder", "(III)V"⟩, 43), (⟨"CorpseTalesModel", "beginNight", "(I)V"⟩, 43), (⟨"CorpseTalesModel", "goHeard", "(I)V"⟩, 43), (⟨"CorpseTalesModel", "goTale", "(I)Z"⟩, 43), (⟨"CorpseTalesModel", "goSteps", "(I)V"⟩, 43), (⟨"CorpseTalesModel", "seekNever", "(I)V"⟩, 43), (⟨"CorpseTalesModel", "isUsed", "(II)Z"⟩, 43), (⟨"CorpseTalesModel", "lookAtRow", "(I)V"⟩, 43), (⟨"CorpseTalesModel", "play", "(I)I"⟩, 43), (⟨"CorpseTalesModel", "nextWay", "(I)I"⟩, 43), (⟨"CorpseTalesModel", "goWay", "(I)V"⟩, 43), (⟨"CorpseTalesModel", "areSo", "(I)Z"⟩, 43), (⟨"CorpseTalesModel", "noCell", "(II)I"⟩, 43)]
theorem lw_r2 : ∀ q ∈ lw_privs_2, lw_okq q := List.forall_mem_cons.mpr ⟨lw_p16, List.forall_mem_cons.mpr ⟨lw_p17, List.forall_mem_cons.mpr ⟨lw_p18, List.forall_mem_cons.mpr ⟨lw_p19, List.forall_mem_cons.mpr ⟨lw_p20, List.forall_mem_cons.mpr ⟨lw_p21, List.forall_mem_cons.mpr ⟨lw_p22, List.forall_mem_cons.mpr ⟨lw_p23, List.forall_mem_cons.mpr ⟨lw_p24, List.forall_mem_cons.mpr ⟨lw_p25, List.forall_mem_cons.mpr ⟨lw_p26, List.forall_mem_cons.mpr ⟨lw_p27, List.forall_mem_cons.mpr ⟨lw_p28, List.forall_mem_cons.mpr ⟨lw_p29, List.forall_mem_cons.mpr ⟨lw_p30, List.forall_mem_cons.mpr ⟨lw_p31, fun _ h => absurd h List.not_mem_nil⟩⟩⟩⟩⟩⟩⟩⟩⟩⟩⟩⟩⟩⟩⟩⟩
theorem lw_p32 : lw_okq (⟨"CorpseTalesModel", "failedLong", "(I)J"⟩, 43) := ⟨⟨by decide +kernel, by decide +kernel⟩, List.mem_of_getElem? (i := 627) (by decide +kernel), List.mem_of_getElem? (i := 954) (by decide +kernel), List.mem_of_getElem? (i := 955) (by decide +kernel)⟩
theorem lw_p33 : lw_okq (⟨"CorpseTalesModel", "traced", "(I)V"⟩, 43) := ⟨⟨by decide +kernel, by decide +kernel⟩, List.mem_of_getElem? (i := 627) (by decide +kernel), List.mem_of_getElem? (i := 966) (by decide +kernel), List.mem_of_getElem? (i := 967) (by decide +kernel)⟩
def lw_privs_3 : List (MethodName × Nat) := [(⟨"CorpseTalesModel", "failedLong", "(I)J"⟩, 43), (⟨"CorpseTalesModel", "traced", "(I)V"⟩, 43)]
theorem lw_r3 : ∀ q ∈ lw_privs_3, lw_okq q := List.forall_mem_cons.mpr ⟨lw_p32, List.forall_mem_cons.mpr ⟨lw_p33, fun _ h => absurd h List.not_mem_nil⟩⟩
def lw_privs : List (MethodName × Nat) := lw_privs_1 ++ (lw_privs_2 ++ (lw_privs_3))
def lw_tbl : List Cond := k2_sels lw_privs ++ tables_1
theorem lw_privs_ok : ∀ q ∈ lw_privs, lw_okq q := by
  show ∀ q ∈ lw_privs_1 ++ (lw_privs_2 ++ (lw_privs_3)), lw_okq q
  exact List.forall_mem_append.mpr ⟨lw_r1, List.forall_mem_append.mpr ⟨lw_r2, lw_r3⟩⟩
def RX0 : String := "CorpseTales$DoubleTale"
def TX0 : u_T := fun k => match k with
  | 0 => ("CorpseTales$Tale", "number", "I", true)
  | 1 => ("CorpseTales$Tale", "firstNeed", "I", true)
  | 2 => ("CorpseTales$Tale", "secondNeed", "I", true)
  | 3 => ("CorpseTales$Tale", "teaches", "I", true)
  | _ => ("CorpseTales$Tale", "length", "I", true)
def tyX0 : Nat → FieldType := fun k => match k with
  | 0 => .int
  | 1 => .int
  | 2 => .int
  | 3 => .int
  | _ => .int
abbrev wsX00 : List Cond := u_ws RX0 TX0 5
theorem nmX0 : ∀ a, a < 5 → ∀ b, b < 5 → a ≠ b → (TX0 a).2.1 ≠ (TX0 b).2.1 := by decide +kernel
theorem tyX0_ok : ∀ k, k < 5 → parseFieldDescriptor (TX0 k).2.2.1 = some (tyX0 k) := by decide +kernel
abbrev cX0_init : ByteArray := prog_2_method_1_code
def yX0_init : MethodName := ⟨RX0, "<init>", "(IIIII)V"⟩
abbrev cX0_kind : ByteArray := prog_2_method_2_code
def yX0_kind : MethodName := ⟨RX0, "kind", "()I"⟩
abbrev cX0_isAnswered : ByteArray := prog_2_method_3_code
def yX0_isAnswered : MethodName := ⟨RX0, "isAnswered", "(II)Z"⟩
abbrev cX0_oddsUnanswered : ByteArray := prog_2_method_4_code
def yX0_oddsUnanswered : MethodName := ⟨RX0, "oddsUnanswered", "(I)I"⟩
abbrev cX0_telling : ByteArray := prog_2_method_5_code
def yX0_telling : MethodName := ⟨RX0, "telling", "(LCorpseTales$Trace;)I"⟩
def RX1 : String := "CorpseTales$Forest"
def TX1 : u_T := fun k => match k with
  | 0 => ("CorpseTales$Forest", "steps", "I", false)
  | 1 => ("CorpseTales$Forest", "count", "I", false)
  | _ => ("CorpseTales$Forest", "tales", "[LCorpseTales$Tale;", true)
def tyX1 : Nat → FieldType := fun k => match k with
  | 0 => .int
  | 1 => .int
  | _ => .array (.object "CorpseTales$Tale")
abbrev wsX10 : List Cond := u_ws RX1 TX1 3
theorem nmX1 : ∀ a, a < 3 → ∀ b, b < 3 → a ≠ b → (TX1 a).2.1 ≠ (TX1 b).2.1 := by decide +kernel
theorem tyX1_ok : ∀ k, k < 3 → parseFieldDescriptor (TX1 k).2.2.1 = some (tyX1 k) := by decide +kernel
abbrev cX1_init : ByteArray := prog_3_method_1_code
def yX1_init : MethodName := ⟨RX1, "<init>", "()V"⟩
abbrev cX1_taleAt : ByteArray := prog_3_method_2_code
def yX1_taleAt : MethodName := ⟨RX1, "taleAt", "(I)LCorpseTales$Tale;"⟩
abbrev cX1_firstFault : ByteArray := prog_3_method_3_code
def yX1_firstFault : MethodName := ⟨RX1, "firstFault", "(LCorpseTales$Sheet;II)I"⟩
abbrev cX1_goesOn : ByteArray := prog_3_method_4_code
def yX1_goesOn : MethodName := ⟨RX1, "goesOn", "(II)Z"⟩
abbrev cX1_grow : ByteArray := prog_3_method_5_code
def yX1_grow : MethodName := ⟨RX1, "grow", "(LCorpseTales$Sheet;II)V"⟩
abbrev cX1_newTale : ByteArray := prog_3_method_6_code
def yX1_newTale : MethodName := ⟨RX1, "newTale", "(ILCorpseTales$Sheet;I)LCorpseTales$Tale;"⟩
def RX2 : String := "CorpseTales$Game"
def TX2 : u_T := fun k => match k with
  | 0 => ("CorpseTales$Game", "nights", "[LCorpseTales$Night;", true)
  | _ => ("CorpseTales$Game", "length", "I", false)
def tyX2 : Nat → FieldType := fun k => match k with
  | 0 => .array (.object "CorpseTales$Night")
  | _ => .int
abbrev wsX20 : List Cond := u_ws RX2 TX2 2
theorem nmX2 : ∀ a, a < 2 → ∀ b, b < 2 → a ≠ b → (TX2 a).2.1 ≠ (TX2 b).2.1 := by decide +kernel
theorem tyX2_ok : ∀ k, k < 2 → parseFieldDescriptor (TX2 k).2.2.1 = some (tyX2 k) := by decide +kernel
abbrev cX2_init : ByteArray := prog_4_method_1_code
def yX2_init : MethodName := ⟨RX2, "<init>", "()V"⟩
abbrev cX2_farByBestPlay : ByteArray := prog_4_method_2_code
def yX2_farByBestPlay : MethodName := ⟨RX2, "farByBestPlay", "(LCorpseTales$Forest;LCorpseTales$Night;I)I"⟩
abbrev cX2_leastFar : ByteArray := prog_4_method_3_code
def yX2_leastFar : MethodName := ⟨RX2, "leastFar", "(LCorpseTales$Forest;III)I"⟩
abbrev cX2_mostFar : ByteArray := prog_4_method_4_code
def yX2_mostFar : MethodName := ⟨RX2, "mostFar", "(LCorpseTales$Forest;IIII)I"⟩
def RX3 : String := "CorpseTales$Never"
def TX3 : u_T := fun k => match k with
  | 0 => ("CorpseTales$Never", "mostFlights", "I", false)
  | 1 => ("CorpseTales$Never", "bestRow", "[I", true)
  | 2 => ("CorpseTales$Never", "row", "[I", true)
  | 3 => ("CorpseTales$Never", "nights", "[LCorpseTales$Night;", true)
  | _ => ("CorpseTales$Never", "length", "I", false)
def tyX3 : Nat → FieldType := fun k => match k with
  | 0 => .int
  | 1 => .array .int
  | 2 => .array .int
  | 3 => .array (.object "CorpseTales$Night")
  | _ => .int
abbrev wsX30 : List Cond := u_ws RX3 TX3 5
theorem nmX3 : ∀ a, a < 5 → ∀ b, b < 5 → a ≠ b → (TX3 a).2.1 ≠ (TX3 b).2.1 := by decide +kernel
theorem tyX3_ok : ∀ k, k < 5 → parseFieldDescriptor (TX3 k).2.2.1 = some (tyX3 k) := by decide +kernel
abbrev cX3_init : ByteArray := prog_5_method_1_code
def yX3_init : MethodName := ⟨RX3, "<init>", "()V"⟩
abbrev cX3_seek : ByteArray := prog_5_method_2_code
def yX3_seek : MethodName := ⟨RX3, "seek", "(LCorpseTales$Forest;LCorpseTales$Night;I)V"⟩
abbrev cX3_goOn : ByteArray := prog_5_method_3_code
def yX3_goOn : MethodName := ⟨RX3, "goOn", "(LCorpseTales$Forest;II)V"⟩
def RX4 : String := "CorpseTales$Night"
def TX4 : u_T := fun k => match k with
  | 0 => ("CorpseTales$Night", "step", "I", false)
  | 1 => ("CorpseTales$Night", "flights", "I", false)
  | 2 => ("CorpseTales$Night", "heardOut", "I", false)
  | 3 => ("CorpseTales$Night", "known", "I", false)
  | 4 => ("CorpseTales$Night", "hasCome", "Z", false)
  | 5 => ("CorpseTales$Night", "steps", "I", false)
  | 6 => ("CorpseTales$Night", "believed", "I", false)
  | _ => ("CorpseTales$Night", "heardTales", "I", false)
def tyX4 : Nat → FieldType := fun k => match k with
  | 0 => .int
  | 1 => .int
  | 2 => .int
  | 3 => .int
  | 4 => .boolean
  | 5 => .int
  | 6 => .int
  | _ => .int
abbrev wsX40 : List Cond := u_ws RX4 TX4 8
theorem nmX4 : ∀ a, a < 8 → ∀ b, b < 8 → a ≠ b → (TX4 a).2.1 ≠ (TX4 b).2.1 := by decide +kernel
theorem tyX4_ok : ∀ k, k < 8 → parseFieldDescriptor (TX4 k).2.2.1 = some (tyX4 k) := by decide +kernel
abbrev cX4_init : ByteArray := prog_6_method_1_code
def yX4_init : MethodName := ⟨RX4, "<init>", "()V"⟩
abbrev cX4_begin : ByteArray := prog_6_method_2_code
def yX4_begin : MethodName := ⟨RX4, "begin", "(III)V"⟩
abbrev cX4_takeUp : ByteArray := prog_6_method_3_code
def yX4_takeUp : MethodName := ⟨RX4, "takeUp", "(LCorpseTales$Night;)V"⟩
abbrev cX4_hear : ByteArray := prog_6_method_4_code
def yX4_hear : MethodName := ⟨RX4, "hear", "(LCorpseTales$Tale;Z)V"⟩
abbrev cX4_learn : ByteArray := prog_6_method_5_code
def yX4_learn : MethodName := ⟨RX4, "learn", "(LCorpseTales$Tale;)V"⟩
abbrev cX4_walk : ByteArray := prog_6_method_6_code
def yX4_walk : MethodName := ⟨RX4, "walk", "(I)V"⟩
def RX5 : String := "CorpseTales$OldTale"
def TX5 : u_T := fun k => match k with
  | 0 => ("CorpseTales$Tale", "number", "I", true)
  | 1 => ("CorpseTales$Tale", "firstNeed", "I", true)
  | 2 => ("CorpseTales$Tale", "secondNeed", "I", true)
  | 3 => ("CorpseTales$Tale", "teaches", "I", true)
  | _ => ("CorpseTales$Tale", "length", "I", true)
def tyX5 : Nat → FieldType := fun k => match k with
  | 0 => .int
  | 1 => .int
  | 2 => .int
  | 3 => .int
  | _ => .int
abbrev wsX50 : List Cond := u_ws RX5 TX5 5
theorem nmX5 : ∀ a, a < 5 → ∀ b, b < 5 → a ≠ b → (TX5 a).2.1 ≠ (TX5 b).2.1 := by decide +kernel
theorem tyX5_ok : ∀ k, k < 5 → parseFieldDescriptor (TX5 k).2.2.1 = some (tyX5 k) := by decide +kernel
abbrev cX5_init : ByteArray := prog_7_method_1_code
def yX5_init : MethodName := ⟨RX5, "<init>", "(IIIII)V"⟩
abbrev cX5_kind : ByteArray := prog_7_method_2_code
def yX5_kind : MethodName := ⟨RX5, "kind", "()I"⟩
abbrev cX5_isAnswered : ByteArray := prog_7_method_3_code
def yX5_isAnswered : MethodName := ⟨RX5, "isAnswered", "(II)Z"⟩
abbrev cX5_telling : ByteArray := prog_7_method_4_code
def yX5_telling : MethodName := ⟨RX5, "telling", "(LCorpseTales$Trace;)I"⟩
abbrev cX5_whispering : ByteArray := prog_7_method_5_code
def yX5_whispering : MethodName := ⟨RX5, "whispering", "(LCorpseTales$Trace;)I"⟩
def RX6 : String := "CorpseTales$Readings"
def TX6 : u_T := fun k => match k with
  | 0 => ("CorpseTales$Readings", "count", "I", false)
  | 1 => ("CorpseTales$Readings", "first", "[I", true)
  | 2 => ("CorpseTales$Readings", "second", "[I", true)
  | _ => ("CorpseTales$Readings", "far", "[I", true)
def tyX6 : Nat → FieldType := fun k => match k with
  | 0 => .int
  | 1 => .array .int
  | 2 => .array .int
  | _ => .array .int
abbrev wsX60 : List Cond := u_ws RX6 TX6 4
theorem nmX6 : ∀ a, a < 4 → ∀ b, b < 4 → a ≠ b → (TX6 a).2.1 ≠ (TX6 b).2.1 := by decide +kernel
theorem tyX6_ok : ∀ k, k < 4 → parseFieldDescriptor (TX6 k).2.2.1 = some (tyX6 k) := by decide +kernel
abbrev cX6_init : ByteArray := prog_8_method_1_code
def yX6_init : MethodName := ⟨RX6, "<init>", "()V"⟩
abbrev cX6_add : ByteArray := prog_8_method_2_code
def yX6_add : MethodName := ⟨RX6, "add", "(III)I"⟩
def RX7 : String := "CorpseTales$Sheet"
def TX7 : u_T := fun k => match k with
  | 0 => ("CorpseTales$Sheet", "lane", "I", false)
  | 1 => ("CorpseTales$Sheet", "count", "I", false)
  | _ => ("CorpseTales$Sheet", "cells", "[I", true)
def tyX7 : Nat → FieldType := fun k => match k with
  | 0 => .int
  | 1 => .int
  | _ => .array .int
abbrev wsX70 : List Cond := u_ws RX7 TX7 3
theorem nmX7 : ∀ a, a < 3 → ∀ b, b < 3 → a ≠ b → (TX7 a).2.1 ≠ (TX7 b).2.1 := by decide +kernel
theorem tyX7_ok : ∀ k, k < 3 → parseFieldDescriptor (TX7 k).2.2.1 = some (tyX7 k) := by decide +kernel
abbrev cX7_init : ByteArray := prog_9_method_1_code
def yX7_init : MethodName := ⟨RX7, "<init>", "()V"⟩
abbrev cX7_isNothing : ByteArray := prog_9_method_2_code
def yX7_isNothing : MethodName := ⟨RX7, "isNothing", "()Z"⟩
abbrev cX7_clear : ByteArray := prog_9_method_3_code
def yX7_clear : MethodName := ⟨RX7, "clear", "()V"⟩
abbrev cX7_renew : ByteArray := prog_9_method_4_code
def yX7_renew : MethodName := ⟨RX7, "renew", "(II)V"⟩
abbrev cX7_hasCell : ByteArray := prog_9_method_5_code
def yX7_hasCell : MethodName := ⟨RX7, "hasCell", "(I)Z"⟩
abbrev cX7_hasCells : ByteArray := prog_9_method_6_code
def yX7_hasCells : MethodName := ⟨RX7, "hasCells", "(II)Z"⟩
abbrev cX7_faultOfLane : ByteArray := prog_9_method_7_code
def yX7_faultOfLane : MethodName := ⟨RX7, "faultOfLane", "(I)I"⟩
abbrev cX7_faultOfCells : ByteArray := prog_9_method_8_code
def yX7_faultOfCells : MethodName := ⟨RX7, "faultOfCells", "(III)I"⟩
abbrev cX7_read : ByteArray := prog_9_method_9_code
def yX7_read : MethodName := ⟨RX7, "read", "(I)I"⟩
abbrev cX7_write : ByteArray := prog_9_method_10_code
def yX7_write : MethodName := ⟨RX7, "write", "(II)V"⟩
def RX8 : String := "CorpseTales$Tale"
def TX8 : u_T := fun k => match k with
  | 0 => ("CorpseTales$Tale", "number", "I", true)
  | 1 => ("CorpseTales$Tale", "firstNeed", "I", true)
  | 2 => ("CorpseTales$Tale", "secondNeed", "I", true)
  | 3 => ("CorpseTales$Tale", "teaches", "I", true)
  | _ => ("CorpseTales$Tale", "length", "I", true)
def tyX8 : Nat → FieldType := fun k => match k with
  | 0 => .int
  | 1 => .int
  | 2 => .int
  | 3 => .int
  | _ => .int
abbrev wsX80 : List Cond := u_ws RX8 TX8 5
theorem nmX8 : ∀ a, a < 5 → ∀ b, b < 5 → a ≠ b → (TX8 a).2.1 ≠ (TX8 b).2.1 := by decide +kernel
theorem tyX8_ok : ∀ k, k < 5 → parseFieldDescriptor (TX8 k).2.2.1 = some (tyX8 k) := by decide +kernel
abbrev cX8_init : ByteArray := prog_10_method_1_code
def yX8_init : MethodName := ⟨RX8, "<init>", "(IIIII)V"⟩
abbrev cX8_kind : ByteArray := prog_10_method_2_code
def yX8_kind : MethodName := ⟨RX8, "kind", "()I"⟩
abbrev cX8_isAnswered : ByteArray := prog_10_method_3_code
def yX8_isAnswered : MethodName := ⟨RX8, "isAnswered", "(II)Z"⟩
abbrev cX8_hasEitherNeed : ByteArray := prog_10_method_4_code
def yX8_hasEitherNeed : MethodName := ⟨RX8, "hasEitherNeed", "(I)Z"⟩
abbrev cX8_oddsUnanswered : ByteArray := prog_10_method_5_code
def yX8_oddsUnanswered : MethodName := ⟨RX8, "oddsUnanswered", "(I)I"⟩
abbrev cX8_telling : ByteArray := prog_10_method_6_code
def yX8_telling : MethodName := ⟨RX8, "telling", "(LCorpseTales$Trace;)I"⟩
abbrev cX8_plainTelling : ByteArray := prog_10_method_7_code
def yX8_plainTelling : MethodName := ⟨RX8, "plainTelling", "(LCorpseTales$Trace;)I"⟩
abbrev cX8_whispering : ByteArray := prog_10_method_8_code
def yX8_whispering : MethodName := ⟨RX8, "whispering", "(LCorpseTales$Trace;)I"⟩
def RX9 : String := "CorpseTales$Trace"
def TX9 : u_T := fun k => match k with
  | _ => ("CorpseTales$Trace", "value", "I", false)
def tyX9 : Nat → FieldType := fun k => match k with
  | _ => .int
abbrev wsX90 : List Cond := u_ws RX9 TX9 1
theorem nmX9 : ∀ a, a < 1 → ∀ b, b < 1 → a ≠ b → (TX9 a).2.1 ≠ (TX9 b).2.1 := by decide +kernel
theorem tyX9_ok : ∀ k, k < 1 → parseFieldDescriptor (TX9 k).2.2.1 = some (tyX9 k) := by decide +kernel
abbrev cX9_init : ByteArray := prog_11_method_1_code
def yX9_init : MethodName := ⟨RX9, "<init>", "()V"⟩
abbrev cX9_leave : ByteArray := prog_11_method_2_code
def yX9_leave : MethodName := ⟨RX9, "leave", "(I)V"⟩
def RX10 : String := "CorpseTales"
def TX10 : u_T := fun k => match k with
  | 0 => ("CorpseTales", "forest", "LCorpseTales$Forest;", true)
  | 1 => ("CorpseTales", "known", "I", false)
  | 2 => ("CorpseTales", "believed", "I", false)
  | 3 => ("CorpseTales", "readings", "LCorpseTales$Readings;", true)
  | 4 => ("CorpseTales", "sheets", "[LCorpseTales$Sheet;", true)
  | 5 => ("CorpseTales", "traced", "LCorpseTales$Trace;", true)
  | 6 => ("CorpseTales", "latestFault", "I", false)
  | 7 => ("CorpseTales", "order", "[I", true)
  | 8 => ("CorpseTales", "orderLength", "I", false)
  | 9 => ("CorpseTales", "oneNight", "LCorpseTales$Night;", true)
  | 10 => ("CorpseTales", "nevers", "LCorpseTales$Never;", true)
  | _ => ("CorpseTales", "games", "LCorpseTales$Game;", true)
def tyX10 : Nat → FieldType := fun k => match k with
  | 0 => .object "CorpseTales$Forest"
  | 1 => .int
  | 2 => .int
  | 3 => .object "CorpseTales$Readings"
  | 4 => .array (.object "CorpseTales$Sheet")
  | 5 => .object "CorpseTales$Trace"
  | 6 => .int
  | 7 => .array .int
  | 8 => .int
  | 9 => .object "CorpseTales$Night"
  | 10 => .object "CorpseTales$Never"
  | _ => .object "CorpseTales$Game"
abbrev wsX100 : List Cond := u_ws RX10 TX10 12
theorem nmX10 : ∀ a, a < 12 → ∀ b, b < 12 → a ≠ b → (TX10 a).2.1 ≠ (TX10 b).2.1 := by decide +kernel
theorem tyX10_ok : ∀ k, k < 12 → parseFieldDescriptor (TX10 k).2.2.1 = some (tyX10 k) := by decide +kernel
abbrev cX10_init : ByteArray := prog_1_method_1_code
def yX10_init : MethodName := ⟨RX10, "<init>", "()V"⟩
abbrev cX10_forest : ByteArray := prog_1_method_2_code
def yX10_forest : MethodName := ⟨RX10, "forest", "(IIII)I"⟩
abbrev cX10_ofTale : ByteArray := prog_1_method_3_code
def yX10_ofTale : MethodName := ⟨RX10, "ofTale", "(II)I"⟩
abbrev cX10_know : ByteArray := prog_1_method_4_code
def yX10_know : MethodName := ⟨RX10, "know", "(IZ)I"⟩
abbrev cX10_believe : ByteArray := prog_1_method_5_code
def yX10_believe : MethodName := ⟨RX10, "believe", "(IZ)I"⟩
abbrev cX10_night : ByteArray := prog_1_method_6_code
def yX10_night : MethodName := ⟨RX10, "night", "(IIIII)I"⟩
abbrev cX10_comes : ByteArray := prog_1_method_7_code
def yX10_comes : MethodName := ⟨RX10, "comes", "(IIII)I"⟩
abbrev cX10_takeOrder : ByteArray := prog_1_method_8_code
def yX10_takeOrder : MethodName := ⟨RX10, "takeOrder", "(IIIII)I"⟩
abbrev cX10_passNight : ByteArray := prog_1_method_9_code
def yX10_passNight : MethodName := ⟨RX10, "passNight", "(I)V"⟩
abbrev cX10_never : ByteArray := prog_1_method_10_code
def yX10_never : MethodName := ⟨RX10, "never", "(II)I"⟩
abbrev cX10_study : ByteArray := prog_1_method_11_code
def yX10_study : MethodName := ⟨RX10, "study", "(IIII)I"⟩
abbrev cX10_game : ByteArray := prog_1_method_12_code
def yX10_game : MethodName := ⟨RX10, "game", "(I)I"⟩
abbrev cX10_porter : ByteArray := prog_1_method_13_code
def yX10_porter : MethodName := ⟨RX10, "porter", "(III)J"⟩
abbrev cX10_reading : ByteArray := prog_1_method_14_code
def yX10_reading : MethodName := ⟨RX10, "reading", "(III)I"⟩
abbrev cX10_back : ByteArray := prog_1_method_15_code
def yX10_back : MethodName := ⟨RX10, "back", "(I)I"⟩
abbrev cX10_fits : ByteArray := prog_1_method_16_code
def yX10_fits : MethodName := ⟨RX10, "fits", "(I)I"⟩
abbrev cX10_fitsReadings : ByteArray := prog_1_method_17_code
def yX10_fitsReadings : MethodName := ⟨RX10, "fitsReadings", "(I)Z"⟩
abbrev cX10_sheet : ByteArray := prog_1_method_18_code
def yX10_sheet : MethodName := ⟨RX10, "sheet", "(III)I"⟩
abbrev cX10_lose : ByteArray := prog_1_method_19_code
def yX10_lose : MethodName := ⟨RX10, "lose", "(I)I"⟩
abbrev cX10_put : ByteArray := prog_1_method_20_code
def yX10_put : MethodName := ⟨RX10, "put", "(III)I"⟩
abbrev cX10_cell : ByteArray := prog_1_method_21_code
def yX10_cell : MethodName := ⟨RX10, "cell", "(III)J"⟩
abbrev cX10_copy : ByteArray := prog_1_method_22_code
def yX10_copy : MethodName := ⟨RX10, "copy", "(IIIII)I"⟩
abbrev cX10_tell : ByteArray := prog_1_method_23_code
def yX10_tell : MethodName := ⟨RX10, "tell", "(I)I"⟩
abbrev cX10_whisper : ByteArray := prog_1_method_24_code
def yX10_whisper : MethodName := ⟨RX10, "whisper", "(I)I"⟩
abbrev cX10_as : ByteArray := prog_1_method_25_code
def yX10_as : MethodName := ⟨RX10, "as", "(II)I"⟩
abbrev cX10_trace : ByteArray := prog_1_method_26_code
def yX10_trace : MethodName := ⟨RX10, "trace", "()I"⟩
abbrev cX10_fault : ByteArray := prog_1_method_27_code
def yX10_fault : MethodName := ⟨RX10, "fault", "()I"⟩
abbrev cX10_many : ByteArray := prog_1_method_28_code
def yX10_many : MethodName := ⟨RX10, "many", "(I)I"⟩
abbrev cX10_sheetAt : ByteArray := prog_1_method_29_code
def yX10_sheetAt : MethodName := ⟨RX10, "sheetAt", "(I)LCorpseTales$Sheet;"⟩
abbrev cX10_failing : ByteArray := prog_1_method_30_code
def yX10_failing : MethodName := ⟨RX10, "failing", "(I)I"⟩
abbrev cX10_isWithin : ByteArray := prog_1_method_31_code
def yX10_isWithin : MethodName := ⟨RX10, "isWithin", "(III)Z"⟩
abbrev cX10_has : ByteArray := prog_1_method_32_code
def yX10_has : MethodName := ⟨RX10, "has", "(II)Z"⟩
abbrev cX10_isOfKind : ByteArray := prog_1_method_33_code
def yX10_isOfKind : MethodName := ⟨RX10, "isOfKind", "(LCorpseTales$Tale;I)Z"⟩
abbrev cX10_newNights : ByteArray := prog_1_method_34_code
def yX10_newNights : MethodName := ⟨RX10, "newNights", "(I)[LCorpseTales$Night;"⟩
def RX11 : String := "CorpseTalesModel"
def TX11 : u_T := fun k => match k with
  | 0 => ("CorpseTalesModel", "fault", "I", false)
  | 1 => ("CorpseTalesModel", "steps", "I", false)
  | 2 => ("CorpseTalesModel", "tales", "I", false)
  | 3 => ("CorpseTalesModel", "kindOf", "[I", true)
  | 4 => ("CorpseTalesModel", "needsOf", "[I", true)
  | 5 => ("CorpseTalesModel", "needsToo", "[I", true)
  | 6 => ("CorpseTalesModel", "teachesOf", "[I", true)
  | 7 => ("CorpseTalesModel", "longOf", "[I", true)
  | 8 => ("CorpseTalesModel", "known", "I", false)
  | 9 => ("CorpseTalesModel", "believed", "I", false)
  | 10 => ("CorpseTalesModel", "readAt", "I", false)
  | 11 => ("CorpseTalesModel", "readSteps", "I", false)
  | 12 => ("CorpseTalesModel", "readTales", "I", false)
  | 13 => ("CorpseTalesModel", "readKind", "[I", true)
  | 14 => ("CorpseTalesModel", "readNeeds", "[I", true)
  | 15 => ("CorpseTalesModel", "readToo", "[I", true)
  | 16 => ("CorpseTalesModel", "readTeaches", "[I", true)
  | 17 => ("CorpseTalesModel", "readLong", "[I", true)
  | 18 => ("CorpseTalesModel", "step", "I", false)
  | 19 => ("CorpseTalesModel", "knowsNow", "I", false)
  | 20 => ("CorpseTalesModel", "heardSet", "I", false)
  | 21 => ("CorpseTalesModel", "heard", "I", false)
  | 22 => ("CorpseTalesModel", "flights", "I", false)
  | 23 => ("CorpseTalesModel", "hasCome", "Z", false)
  | 24 => ("CorpseTalesModel", "row", "[I", true)
  | 25 => ("CorpseTalesModel", "bestRow", "[I", true)
  | 26 => ("CorpseTalesModel", "bestFlights", "I", false)
  | 27 => ("CorpseTalesModel", "stepAt", "[I", true)
  | 28 => ("CorpseTalesModel", "knowsAt", "[I", true)
  | 29 => ("CorpseTalesModel", "toldAt", "[I", true)
  | 30 => ("CorpseTalesModel", "taleAt", "[I", true)
  | 31 => ("CorpseTalesModel", "harksAt", "[I", true)
  | 32 => ("CorpseTalesModel", "mostAt", "[I", true)
  | 33 => ("CorpseTalesModel", "leastAt", "[I", true)
  | 34 => ("CorpseTalesModel", "readings", "I", false)
  | 35 => ("CorpseTalesModel", "readingOf", "[I", true)
  | 36 => ("CorpseTalesModel", "readingToo", "[I", true)
  | 37 => ("CorpseTalesModel", "readingFar", "[I", true)
  | 38 => ("CorpseTalesModel", "sheetSize", "[I", true)
  | 39 => ("CorpseTalesModel", "sheetLane", "[I", true)
  | 40 => ("CorpseTalesModel", "sheet", "[I", true)
  | 41 => ("CorpseTalesModel", "hands", "[I", true)
  | _ => ("CorpseTalesModel", "traceNow", "I", false)
def tyX11 : Nat → FieldType := fun k => match k with
  | 0 => .int
  | 1 => .int
  | 2 => .int
  | 3 => .array .int
  | 4 => .array .int
  | 5 => .array .int
  | 6 => .array .int
  | 7 => .array .int
  | 8 => .int
  | 9 => .int
  | 10 => .int
  | 11 => .int
  | 12 => .int
  | 13 => .array .int
  | 14 => .array .int
  | 15 => .array .int
  | 16 => .array .int
  | 17 => .array .int
  | 18 => .int
  | 19 => .int
  | 20 => .int
  | 21 => .int
  | 22 => .int
  | 23 => .boolean
  | 24 => .array .int
  | 25 => .array .int
  | 26 => .int
  | 27 => .array .int
  | 28 => .array .int
  | 29 => .array .int
  | 30 => .array .int
  | 31 => .array .int
  | 32 => .array .int
  | 33 => .array .int
  | 34 => .int
  | 35 => .array .int
  | 36 => .array .int
  | 37 => .array .int
  | 38 => .array .int
  | 39 => .array .int
  | 40 => .array .int
  | 41 => .array .int
  | _ => .int
abbrev wsX110 : List Cond := u_ws RX11 TX11 43
theorem nmX11 : ∀ a, a < 43 → ∀ b, b < 43 → a ≠ b → (TX11 a).2.1 ≠ (TX11 b).2.1 := by decide +kernel
theorem tyX11_ok : ∀ k, k < 43 → parseFieldDescriptor (TX11 k).2.2.1 = some (tyX11 k) := by decide +kernel
abbrev cX11_init : ByteArray := prog_13_method_1_code
def yX11_init : MethodName := ⟨RX11, "<init>", "()V"⟩
abbrev cX11_in : ByteArray := prog_13_method_2_code
def yX11_in : MethodName := ⟨RX11, "in", "(JJJ)Z"⟩
abbrev cX11_lost : ByteArray := prog_13_method_3_code
def yX11_lost : MethodName := ⟨RX11, "lost", "()J"⟩
abbrev cX11_isIn : ByteArray := prog_13_method_4_code
def yX11_isIn : MethodName := ⟨RX11, "isIn", "(II)Z"⟩
abbrev cX11_bits : ByteArray := prog_13_method_5_code
def yX11_bits : MethodName := ⟨RX11, "bits", "(I)I"⟩
abbrev cX11_told : ByteArray := prog_13_method_6_code
def yX11_told : MethodName := ⟨RX11, "told", "(JJI)J"⟩
abbrev cX11_refused : ByteArray := prog_13_method_7_code
def yX11_refused : MethodName := ⟨RX11, "refused", "(I)I"⟩
abbrev cX11_failed : ByteArray := prog_13_method_8_code
def yX11_failed : MethodName := ⟨RX11, "failed", "(I)I"⟩
abbrev cX11_failedLong : ByteArray := prog_13_method_9_code
def yX11_failedLong : MethodName := ⟨RX11, "failedLong", "(I)J"⟩
abbrev cX11_noTale : ByteArray := prog_13_method_10_code
def yX11_noTale : MethodName := ⟨RX11, "noTale", "(I)Z"⟩
abbrev cX11_codeAt : ByteArray := prog_13_method_11_code
def yX11_codeAt : MethodName := ⟨RX11, "codeAt", "(II)I"⟩
abbrev cX11_figure : ByteArray := prog_13_method_12_code
def yX11_figure : MethodName := ⟨RX11, "figure", "(IIII)I"⟩
abbrev cX11_readsTale : ByteArray := prog_13_method_13_code
def yX11_readsTale : MethodName := ⟨RX11, "readsTale", "(II)Z"⟩
abbrev cX11_readsForest : ByteArray := prog_13_method_14_code
def yX11_readsForest : MethodName := ⟨RX11, "readsForest", "(II)Z"⟩
abbrev cX11_cellsBarred : ByteArray := prog_13_method_15_code
def yX11_cellsBarred : MethodName := ⟨RX11, "cellsBarred", "(IIIJ)I"⟩
abbrev cX11_forest : ByteArray := prog_13_method_16_code
def yX11_forest : MethodName := ⟨RX11, "forest", "(IIII)I"⟩
abbrev cX11_hasAnswer : ByteArray := prog_13_method_17_code
def yX11_hasAnswer : MethodName := ⟨RX11, "hasAnswer", "(III)Z"⟩
abbrev cX11_ofTale : ByteArray := prog_13_method_18_code
def yX11_ofTale : MethodName := ⟨RX11, "ofTale", "(II)I"⟩
abbrev cX11_know : ByteArray := prog_13_method_19_code
def yX11_know : MethodName := ⟨RX11, "know", "(IZ)I"⟩
abbrev cX11_believe : ByteArray := prog_13_method_20_code
def yX11_believe : MethodName := ⟨RX11, "believe", "(IZ)I"⟩
abbrev cX11_beginNight : ByteArray := prog_13_method_21_code
def yX11_beginNight : MethodName := ⟨RX11, "beginNight", "(I)V"⟩
abbrev cX11_goSteps : ByteArray := prog_13_method_22_code
def yX11_goSteps : MethodName := ⟨RX11, "goSteps", "(I)V"⟩
abbrev cX11_goTale : ByteArray := prog_13_method_23_code
def yX11_goTale : MethodName := ⟨RX11, "goTale", "(I)Z"⟩
abbrev cX11_goHeard : ByteArray := prog_13_method_24_code
def yX11_goHeard : MethodName := ⟨RX11, "goHeard", "(I)V"⟩
abbrev cX11_goOrder : ByteArray := prog_13_method_25_code
def yX11_goOrder : MethodName := ⟨RX11, "goOrder", "(III)V"⟩
abbrev cX11_orderBarred : ByteArray := prog_13_method_26_code
def yX11_orderBarred : MethodName := ⟨RX11, "orderBarred", "(IIII)I"⟩
abbrev cX11_night : ByteArray := prog_13_method_27_code
def yX11_night : MethodName := ⟨RX11, "night", "(IIIII)I"⟩
abbrev cX11_comes : ByteArray := prog_13_method_28_code
def yX11_comes : MethodName := ⟨RX11, "comes", "(IIII)I"⟩
abbrev cX11_isUsed : ByteArray := prog_13_method_29_code
def yX11_isUsed : MethodName := ⟨RX11, "isUsed", "(II)Z"⟩
abbrev cX11_lookAtRow : ByteArray := prog_13_method_30_code
def yX11_lookAtRow : MethodName := ⟨RX11, "lookAtRow", "(I)V"⟩
abbrev cX11_seekNever : ByteArray := prog_13_method_31_code
def yX11_seekNever : MethodName := ⟨RX11, "seekNever", "(I)V"⟩
abbrev cX11_never : ByteArray := prog_13_method_32_code
def yX11_never : MethodName := ⟨RX11, "never", "(II)I"⟩
abbrev cX11_study : ByteArray := prog_13_method_33_code
def yX11_study : MethodName := ⟨RX11, "study", "(IIII)I"⟩
abbrev cX11_nextWay : ByteArray := prog_13_method_34_code
def yX11_nextWay : MethodName := ⟨RX11, "nextWay", "(I)I"⟩
abbrev cX11_goWay : ByteArray := prog_13_method_35_code
def yX11_goWay : MethodName := ⟨RX11, "goWay", "(I)V"⟩
abbrev cX11_play : ByteArray := prog_13_method_36_code
def yX11_play : MethodName := ⟨RX11, "play", "(I)I"⟩
abbrev cX11_game : ByteArray := prog_13_method_37_code
def yX11_game : MethodName := ⟨RX11, "game", "(I)I"⟩
abbrev cX11_porter : ByteArray := prog_13_method_38_code
def yX11_porter : MethodName := ⟨RX11, "porter", "(III)J"⟩
abbrev cX11_reading : ByteArray := prog_13_method_39_code
def yX11_reading : MethodName := ⟨RX11, "reading", "(III)I"⟩
abbrev cX11_back : ByteArray := prog_13_method_40_code
def yX11_back : MethodName := ⟨RX11, "back", "(I)I"⟩
abbrev cX11_areSo : ByteArray := prog_13_method_41_code
def yX11_areSo : MethodName := ⟨RX11, "areSo", "(I)Z"⟩
abbrev cX11_fits : ByteArray := prog_13_method_42_code
def yX11_fits : MethodName := ⟨RX11, "fits", "(I)I"⟩
abbrev cX11_noSheet : ByteArray := prog_13_method_43_code
def yX11_noSheet : MethodName := ⟨RX11, "noSheet", "(I)Z"⟩
abbrev cX11_sheet : ByteArray := prog_13_method_44_code
def yX11_sheet : MethodName := ⟨RX11, "sheet", "(III)I"⟩
abbrev cX11_lose : ByteArray := prog_13_method_45_code
def yX11_lose : MethodName := ⟨RX11, "lose", "(I)I"⟩
abbrev cX11_noCell : ByteArray := prog_13_method_46_code
def yX11_noCell : MethodName := ⟨RX11, "noCell", "(II)I"⟩
abbrev cX11_put : ByteArray := prog_13_method_47_code
def yX11_put : MethodName := ⟨RX11, "put", "(III)I"⟩
abbrev cX11_cell : ByteArray := prog_13_method_48_code
def yX11_cell : MethodName := ⟨RX11, "cell", "(III)J"⟩
abbrev cX11_isBeyond : ByteArray := prog_13_method_49_code
def yX11_isBeyond : MethodName := ⟨RX11, "isBeyond", "(IJI)Z"⟩
abbrev cX11_copy : ByteArray := prog_13_method_50_code
def yX11_copy : MethodName := ⟨RX11, "copy", "(IIIII)I"⟩
abbrev cX11_traced : ByteArray := prog_13_method_51_code
def yX11_traced : MethodName := ⟨RX11, "traced", "(I)V"⟩
abbrev cX11_tell : ByteArray := prog_13_method_52_code
def yX11_tell : MethodName := ⟨RX11, "tell", "(I)I"⟩
abbrev cX11_whisper : ByteArray := prog_13_method_53_code
def yX11_whisper : MethodName := ⟨RX11, "whisper", "(I)I"⟩
abbrev cX11_as : ByteArray := prog_13_method_54_code
def yX11_as : MethodName := ⟨RX11, "as", "(II)I"⟩
abbrev cX11_trace : ByteArray := prog_13_method_55_code
def yX11_trace : MethodName := ⟨RX11, "trace", "()I"⟩
abbrev cX11_fault : ByteArray := prog_13_method_56_code
def yX11_fault : MethodName := ⟨RX11, "fault", "()I"⟩
abbrev cX11_many : ByteArray := prog_13_method_57_code
def yX11_many : MethodName := ⟨RX11, "many", "(I)I"⟩
def RJ6 : String := "java/lang/Integer"
def TJ6 : u_T := fun k => match k with
  | _ => ("", "", "", false)
def tyJ6 : Nat → FieldType := fun k => match k with
  | _ => .int
abbrev wsJ60 : List Cond := u_ws RJ6 TJ6 0
theorem nmJ6 : ∀ a, a < 0 → ∀ b, b < 0 → a ≠ b → (TJ6 a).2.1 ≠ (TJ6 b).2.1 := by decide +kernel
theorem tyJ6_ok : ∀ k, k < 0 → parseFieldDescriptor (TJ6 k).2.2.1 = some (tyJ6 k) := by decide +kernel
abbrev cJ6_bitCount_0f7a4 : ByteArray := prog_14_method_49_code
def yJ6_bitCount_0f7a4 : MethodName := ⟨RJ6, "bitCount", "(I)I"⟩
def RJ9 : String := "java/lang/Math"
def TJ9 : u_T := fun k => match k with
  | _ => ("", "", "", false)
def tyJ9 : Nat → FieldType := fun k => match k with
  | _ => .int
abbrev wsJ90 : List Cond := u_ws RJ9 TJ9 0
theorem nmJ9 : ∀ a, a < 0 → ∀ b, b < 0 → a ≠ b → (TJ9 a).2.1 ≠ (TJ9 b).2.1 := by decide +kernel
theorem tyJ9_ok : ∀ k, k < 0 → parseFieldDescriptor (TJ9 k).2.2.1 = some (tyJ9 k) := by decide +kernel
abbrev cJ9_max_7cf53 : ByteArray := prog_15_method_65_code
def yJ9_max_7cf53 : MethodName := ⟨RJ9, "max", "(II)I"⟩
abbrev cJ9_min_7cf53 : ByteArray := prog_15_method_69_code
def yJ9_min_7cf53 : MethodName := ⟨RJ9, "min", "(II)I"⟩
def RJ10 : String := "java/lang/System"
def TJ10 : u_T := fun k => match k with
  | _ => ("", "", "", false)
def tyJ10 : Nat → FieldType := fun k => match k with
  | _ => .int
abbrev wsJ100 : List Cond := u_ws RJ10 TJ10 0
theorem nmJ10 : ∀ a, a < 0 → ∀ b, b < 0 → a ≠ b → (TJ10 a).2.1 ≠ (TJ10 b).2.1 := by decide +kernel
theorem tyJ10_ok : ∀ k, k < 0 → parseFieldDescriptor (TJ10 k).2.2.1 = some (tyJ10 k) := by decide +kernel
def RJ7 : String := "java/util/Arrays"
def TJ7 : u_T := fun k => match k with
  | _ => ("", "", "", false)
def tyJ7 : Nat → FieldType := fun k => match k with
  | _ => .int
abbrev wsJ70 : List Cond := u_ws RJ7 TJ7 0
theorem nmJ7 : ∀ a, a < 0 → ∀ b, b < 0 → a ≠ b → (TJ7 a).2.1 ≠ (TJ7 b).2.1 := by decide +kernel
theorem tyJ7_ok : ∀ k, k < 0 → parseFieldDescriptor (TJ7 k).2.2.1 = some (tyJ7 k) := by decide +kernel
abbrev cJ7_fill_53178 : ByteArray := prog_17_method_103_code
def yJ7_fill_53178 : MethodName := ⟨RJ7, "fill", "([II)V"⟩
def RL : String := "CorpseTalesLaw"
abbrev cL_law : ByteArray := code
def yL_law : MethodName := ⟨RL, "law", "([I)Z"⟩
abbrev vwCl : List vw_C := [(RX0, TX0, 5), (RX1, TX1, 3), (RX2, TX2, 2), (RX3, TX3, 5), (RX4, TX4, 8), (RX5, TX5, 5), (RX6, TX6, 4), (RX7, TX7, 3), (RX8, TX8, 5), (RX9, TX9, 1), (RX10, TX10, 12), (RX11, TX11, 43)]
end
section
/-! the deep machine: values, a heap of numbered cells, frames, one step -/
abbrev zV : Type := Int32 ⊕ (Int64 ⊕ Option Nat)
/-- cells, slots in use, kind and length of a cell, its ints, its references -/
abbrev zH : Type := Nat × Nat × (Nat → Nat × Nat) × (Nat → Nat → Int32) × (Nat → Nat → Option Nat)
abbrev zR : Type := Option zV × zH
abbrev zL : Type := List (Option zV)
abbrev zS : Type := Nat × zL × List zV × zH
/-- an instruction, its length, a number, a table -/
abbrev zO : Type := Instr × Nat × Int × List (Nat × Nat × Nat × String × String)
def zn (h : zH) : Nat := h.1
def zu (h : zH) : Nat := h.2.1
def zk (h : zH) (a : Nat) : Nat × Nat := h.2.2.1 a
def zi (h : zH) (a j : Nat) : Int32 := h.2.2.2.1 a j
def zr (h : zH) (a j : Nat) : Option Nat := h.2.2.2.2 a j
def zwI (h : zH) (a j : Nat) (v : Int32) : zH := (h.1, h.2.1, h.2.2.1, fun x y => if x = a ∧ y = j then v else h.2.2.2.1 x y, h.2.2.2.2)
def zwR (h : zH) (a j : Nat) (r : Option Nat) : zH := (h.1, h.2.1, h.2.2.1, h.2.2.2.1, fun x y => if x = a ∧ y = j then r else h.2.2.2.2 x y)
def zwC (h : zH) (a sp b dp n : Nat) : zH := (h.1, h.2.1, h.2.2.1, fun x y => if x = b ∧ dp ≤ y ∧ y < dp + n then h.2.2.2.1 a (sp + (y - dp)) else h.2.2.2.1 x y, h.2.2.2.2)
def zN (h : zH) (t n N : Nat) : zH := (h.1 + 1, h.2.1 + N, fun x => if x = h.1 then (t, n) else h.2.2.1 x, fun x y => if x = h.1 then 0 else h.2.2.2.1 x y, fun x y => if x = h.1 then none else h.2.2.2.2 x y)
def zix (i : Int32) (n : Nat) : Option Nat := if i < 0 ∨ n ≤ i.toNatClampNeg then none else some i.toNatClampNeg
/-- locals -/
def zcl (x : Option zV) : Option zV := match x with
  | some (.inr (.inl _)) => none
  | x => x
def zst1 : zL → Nat → zV → zL
  | [], _, _ => []
  | _ :: ls, 0, v => some v :: ls
  | [x], 1, _ => [x]
  | x :: _ :: ls, 1, v => zcl x :: some v :: ls
  | x :: ls, k + 2, v => x :: zst1 ls (k + 1) v
def zst2 (ls : zL) (i : Nat) (v : zV) : zL := (zst1 ls i v).set (i + 1) none
def zld (ls : zL) (i : Nat) : Option zV := match ls[i]? with
  | some (some v) => some v
  | _ => none
def zlong (v : zV) : Bool := match v with
  | .inr (.inl _) => true
  | _ => false
def zlsA : List zV → zL
  | [] => []
  | v :: vs => if zlong v then some v :: none :: zlsA vs else some v :: zlsA vs
def zls (vs : List zV) (n : Nat) : zL := zlsA vs ++ List.replicate (n - (zlsA vs).length) none
def zfind : List (Nat × Nat × Nat × String × String) → Nat → Option Nat
  | [], _ => none
  | q :: l, t => if q.1 = t then some q.2.1 else zfind l t
def ztg (pc : Nat) (off : Int) : Nat := ((pc : Int) + off).toNat
def zcond (c : ClassFile.Cond) (x y : Int32) : Bool := match c with
  | .eq => decide (x = y)
  | .ne => !decide (x = y)
  | .lt => decide (x < y)
  | .ge => decide (y ≤ x)
  | .gt => decide (y < x)
  | .le => decide (x ≤ y)
abbrev zT : Type := Option (zR ⊕ zS)
def zgo (pc : Nat) (ls : zL) (st : List zV) (h : zH) : zT := some (.inr (pc, ls, st, h))
def zpush (k pc : Nat) (ls : zL) (st : List zV) (h : zH) (v : zV) : zT := some (.inr (pc + k, ls, v :: st, h))
def zop2 (f : Int32 → Int32 → Option Int32) (pc : Nat) (ls : zL) (st : List zV) (h : zH) : zT := match st with
  | .inl y :: .inl x :: r => (f x y).bind fun v => zgo (pc + 1) ls (.inl v :: r) h
  | _ => none
def zop2l (f : Int64 → Int64 → Option Int64) (pc : Nat) (ls : zL) (st : List zV) (h : zH) : zT := match st with
  | .inr (.inl y) :: .inr (.inl x) :: r => (f x y).bind fun v => zgo (pc + 1) ls (.inr (.inl v) :: r) h
  | _ => none
def zop1 (f : Int32 → zV) (pc : Nat) (ls : zL) (st : List zV) (h : zH) : zT := match st with
  | .inl x :: r => zgo (pc + 1) ls (f x :: r) h
  | _ => none
/-- a load, a store: of kind 0 int, 1 long, 2 reference -/
def zload (w k i pc : Nat) (ls : zL) (st : List zV) (h : zH) : zT := match w, zld ls i with
  | 0, some (.inl v) => zpush k pc ls st h (.inl v)
  | 1, some (.inr (.inl v)) => zpush k pc ls st h (.inr (.inl v))
  | 2, some (.inr (.inr v)) => zpush k pc ls st h (.inr (.inr v))
  | _, _ => none
def zstore (w k i pc : Nat) (ls : zL) (st : List zV) (h : zH) : zT := match w, st with
  | 0, .inl v :: r => if i < ls.length then zgo (pc + k) (zst1 ls i (.inl v)) r h else none
  | 1, .inr (.inl v) :: r => if i + 1 < ls.length then zgo (pc + k) (zst2 ls i (.inr (.inl v))) r h else none
  | 2, .inr (.inr v) :: r => if i < ls.length then zgo (pc + k) (zst1 ls i (.inr (.inr v))) r h else none
  | _, _ => none
def zget (o : zO) (pc : Nat) (ls : zL) (st : List zV) (h : zH) : zT := match st with
  | .inr (.inr (some a)) :: r => (zfind o.2.2.2 (zk h a).1).bind fun k => if o.2.2.1 = 2 then zgo (pc + 3) ls (.inr (.inr (zr h a k)) :: r) h else zgo (pc + 3) ls (.inl (zi h a k) :: r) h
  | _ => none
def zput (o : zO) (pc : Nat) (ls : zL) (st : List zV) (h : zH) : zT := match st with
  | .inl v :: .inr (.inr (some a)) :: r => (zfind o.2.2.2 (zk h a).1).bind fun k => if o.2.2.1 = 0 ∨ (o.2.2.1 = 1 ∧ (v = 0 ∨ v = 1)) then zgo (pc + 3) ls r (zwI h a k v) else none
  | .inr (.inr q) :: .inr (.inr (some a)) :: r => (zfind o.2.2.2 (zk h a).1).bind fun k => if o.2.2.1 = 2 then zgo (pc + 3) ls r (zwR h a k q) else none
  | _ => none
def zald (pc : Nat) (ls : zL) (st : List zV) (h : zH) : zT := match st with
  | .inl i :: .inr (.inr (some a)) :: r => if (zk h a).1 = 12 ∨ (zk h a).1 = 16 then (zix i (zk h a).2).bind fun j => zgo (pc + 1) ls (.inl (zi h a j) :: r) h else none
  | _ => none
def zast (pc : Nat) (ls : zL) (st : List zV) (h : zH) : zT := match st with
  | .inl v :: .inl i :: .inr (.inr (some a)) :: r => if (zk h a).1 = 12 then (zix i (zk h a).2).bind fun j => zgo (pc + 1) ls r (zwI h a j v) else none
  | _ => none
def zaald (pc : Nat) (ls : zL) (st : List zV) (h : zH) : zT := match st with
  | .inl i :: .inr (.inr (some a)) :: r => if 13 ≤ (zk h a).1 ∧ (zk h a).1 ≤ 15 then (zix i (zk h a).2).bind fun j => zgo (pc + 1) ls (.inr (.inr (zr h a j)) :: r) h else none
  | _ => none
/-- which objects an array of references takes: array kind, class -/
def zfit (t c : Nat) : Bool := (t == 13 && (c == 8 || c == 0 || c == 5)) || (t == 14 && c == 4) || (t == 15 && c == 7)
def zaast (pc : Nat) (ls : zL) (st : List zV) (h : zH) : zT := match st with
  | .inr (.inr (some q)) :: .inl i :: .inr (.inr (some a)) :: r => if zfit (zk h a).1 (zk h q).1 = true then (zix i (zk h a).2).bind fun j => zgo (pc + 1) ls r (zwR h a j (some q)) else none
  | _ => none
def zalen (pc : Nat) (ls : zL) (st : List zV) (h : zH) : zT := match st with
  | .inr (.inr (some a)) :: r => if 12 ≤ (zk h a).1 ∧ (zk h a).1 ≤ 16 then zgo (pc + 1) ls (.inl (Int32.ofNat (zk h a).2) :: r) h else none
  | _ => none
def znew (o : zO) (pc : Nat) (ls : zL) (st : List zV) (h : zH) : zT := match o.2.2.2 with
  | [q] => zgo (pc + 3) ls (.inr (.inr (some (zn h))) :: st) (zN h q.1 0 q.2.1)
  | _ => none
def znewa (k t pc : Nat) (ls : zL) (st : List zV) (h : zH) : zT := match st with
  | .inl n :: r => if n < 0 ∨ 1000 < n.toNatClampNeg then none else zgo (pc + k) ls (.inr (.inr (some (zn h))) :: r) (zN h t n.toNatClampNeg n.toNatClampNeg)
  | _ => none
def zinst (o : zO) (pc : Nat) (ls : zL) (st : List zV) (h : zH) : zT := match st with
  | .inr (.inr (some a)) :: r => (zfind o.2.2.2 (zk h a).1).bind fun k => zgo (pc + 3) ls (.inl (if k = 1 then 1 else 0) :: r) h
  | _ => none
def zcopy (pc : Nat) (ls : zL) (st : List zV) (h : zH) : zT := match st with
  | .inl n :: .inl dp :: .inr (.inr (some q)) :: .inl sp :: .inr (.inr (some a)) :: r =>
    if (zk h a).1 = 12 ∧ (zk h q).1 = 12 ∧ ¬ n < 0 ∧ ¬ dp < 0 ∧ ¬ sp < 0 ∧ sp.toNatClampNeg + n.toNatClampNeg ≤ (zk h a).2 ∧ dp.toNatClampNeg + n.toNatClampNeg ≤ (zk h q).2 ∧ r = [] then zgo (pc + 3) ls r (zwC h a sp.toNatClampNeg q dp.toNatClampNeg n.toNatClampNeg) else none
  | _ => none
/-- a call's end: what it answers lies on what was below its arguments -/
def zback (pc : Nat) (ls : zL) (r : List zV) (q : Option zR) : zT := q.bind fun q => zgo (pc + 3) ls (q.1.toList ++ r) q.2
def zcallS (cal : Nat → List zV → zH → Option zR) (o : zO) (pc : Nat) (ls : zL) (st : List zV) (h : zH) : zT := match o.2.2.2 with
  | [q] => if o.2.2.1.toNat ≤ st.length ∧ st.length - o.2.2.1.toNat ≤ 4 then zback pc ls (st.drop o.2.2.1.toNat) (cal q.2.1 (st.take o.2.2.1.toNat).reverse h) else none
  | _ => none
def zcallV (cal : Nat → List zV → zH → Option zR) (o : zO) (pc : Nat) (ls : zL) (st : List zV) (h : zH) : zT := match st.drop o.2.2.1.toNat with
  | .inr (.inr (some a)) :: r => if r.length ≤ 4 then (zfind o.2.2.2 (zk h a).1).bind fun mid => zback pc ls r (cal mid (.inr (.inr (some a)) :: (st.take o.2.2.1.toNat).reverse) h) else none
  | _ => none
/-- the constructor, super's method: its number alone decides; -1: Object's constructor -/
def zcallI (cal : Nat → List zV → zH → Option zR) (o : zO) (pc : Nat) (ls : zL) (st : List zV) (h : zH) : zT :=
  if o.2.2.1 = -1 then (match st with
    | .inr (.inr (some _)) :: r => if r.length ≤ 4 then zgo (pc + 3) ls r h else none
    | _ => none)
  else match o.2.2.2, st.drop o.2.2.1.toNat with
    | [q], .inr (.inr (some a)) :: r => if r.length ≤ 4 ∧ (zk h a).1 < 12 then zback pc ls r (cal q.2.1 (.inr (.inr (some a)) :: (st.take o.2.2.1.toNat).reverse) h) else none
    | _, _ => none
def zjump (c : ClassFile.Cond) (off : Int) (pc : Nat) (ls : zL) (st : List zV) (h : zH) : zT := match st with
  | .inl x :: r => if zcond c x 0 = true then zgo (ztg pc off) ls r h else zgo (pc + 3) ls r h
  | _ => none
def zjump2 (c : ClassFile.Cond) (off : Int) (pc : Nat) (ls : zL) (st : List zV) (h : zH) : zT := match st with
  | .inl y :: .inl x :: r => if zcond c x y = true then zgo (ztg pc off) ls r h else zgo (pc + 3) ls r h
  | _ => none
def zjumpN (z : Bool) (off : Int) (pc : Nat) (ls : zL) (st : List zV) (h : zH) : zT := match st with
  | .inr (.inr q) :: r => if q.isNone = z then zgo (ztg pc off) ls r h else zgo (pc + 3) ls r h
  | _ => none
def ztab (d lo hi : Int) (offs : Array Int) (pc : Nat) (ls : zL) (st : List zV) (h : zH) : zT := match st with
  | .inl x :: r => if x.toInt < lo ∨ hi < x.toInt then zgo (ztg pc d) ls r h else (offs[(x.toInt - lo).toNat]?).bind fun off => zgo (ztg pc off) ls r h
  | _ => none
def zlook (d : Int) (ps : Array (Int × Int)) (pc : Nat) (ls : zL) (st : List zV) (h : zH) : zT := match st with
  | .inl x :: r => zgo (ztg pc (Op.lookupswitch.offset ps.toList d x.toInt)) ls r h
  | _ => none
def zdup (pc : Nat) (ls : zL) (st : List zV) (h : zH) : zT := match st with
  | v :: r => if zlong v = false then zgo (pc + 1) ls (v :: v :: r) h else none
  | _ => none
def zdup2 (pc : Nat) (ls : zL) (st : List zV) (h : zH) : zT := match st with
  | v :: w :: r => if zlong v = false ∧ zlong w = false then zgo (pc + 1) ls (v :: w :: v :: w :: r) h else none
  | _ => none
def zpop (pc : Nat) (ls : zL) (st : List zV) (h : zH) : zT := match st with
  | v :: r => if zlong v = false then zgo (pc + 1) ls r h else none
  | _ => none
def zinc (i : Nat) (n : Int) (pc : Nat) (ls : zL) (st : List zV) (h : zH) : zT := match zld ls i with
  | some (.inl x) => if i < ls.length then zgo (pc + 3) (zst1 ls i (.inl (x + Int32.ofInt n))) st h else none
  | _ => none
def zlcmp (pc : Nat) (ls : zL) (st : List zV) (h : zH) : zT := match st with
  | .inr (.inl y) :: .inr (.inl x) :: r => zgo (pc + 1) ls (.inl (lg_cmp x y) :: r) h
  | _ => none
/-- the end of a method: flag 1: a boolean's -/
def zret (o : zO) (st : List zV) (h : zH) : zT := match o.1, st with
  | .ireturn, [.inl v] => if o.2.2.1 = 1 ∧ ¬ (v = 0 ∨ v = 1) then none else some (.inl (some (.inl v), h))
  | .lreturn, [.inr (.inl v)] => some (.inl (some (.inr (.inl v)), h))
  | .areturn, [.inr (.inr v)] => some (.inl (some (.inr (.inr v)), h))
  | .return_, [] => some (.inl (none, h))
  | _, _ => none
def zstp (cal : Nat → List zV → zH → Option zR) (o : zO) (x : zS) : zT :=
  match o.1 with
  | .iconst n => zpush 1 x.1 x.2.1 x.2.2.1 x.2.2.2 (.inl (Int32.ofInt n))
  | .bipush n => zpush 2 x.1 x.2.1 x.2.2.1 x.2.2.2 (.inl (Int8.ofInt n).toInt32)
  | .sipush n => zpush 3 x.1 x.2.1 x.2.2.1 x.2.2.2 (.inl (Int16.ofInt n).toInt32)
  | .lconst n => zpush 1 x.1 x.2.1 x.2.2.1 x.2.2.2 (.inr (.inl (Int64.ofNat n)))
  | .ldc _ => zpush 2 x.1 x.2.1 x.2.2.1 x.2.2.2 (.inl (Int32.ofInt o.2.2.1))
  | .ldc_w _ => zpush 3 x.1 x.2.1 x.2.2.1 x.2.2.2 (.inl (Int32.ofInt o.2.2.1))
  | .ldc2_w _ => zpush 3 x.1 x.2.1 x.2.2.1 x.2.2.2 (.inr (.inl (Int64.ofInt o.2.2.1)))
  | .aconst_null => zpush 1 x.1 x.2.1 x.2.2.1 x.2.2.2 (.inr (.inr none))
  | .iload_n i => zload 0 1 i x.1 x.2.1 x.2.2.1 x.2.2.2
  | .iload i => zload 0 2 i x.1 x.2.1 x.2.2.1 x.2.2.2
  | .lload_n i => zload 1 1 i x.1 x.2.1 x.2.2.1 x.2.2.2
  | .lload i => zload 1 2 i x.1 x.2.1 x.2.2.1 x.2.2.2
  | .aload_n i => zload 2 1 i x.1 x.2.1 x.2.2.1 x.2.2.2
  | .aload i => zload 2 2 i x.1 x.2.1 x.2.2.1 x.2.2.2
  | .istore_n i => zstore 0 1 i x.1 x.2.1 x.2.2.1 x.2.2.2
  | .istore i => zstore 0 2 i x.1 x.2.1 x.2.2.1 x.2.2.2
  | .lstore_n i => zstore 1 1 i x.1 x.2.1 x.2.2.1 x.2.2.2
  | .lstore i => zstore 1 2 i x.1 x.2.1 x.2.2.1 x.2.2.2
  | .astore_n i => zstore 2 1 i x.1 x.2.1 x.2.2.1 x.2.2.2
  | .astore i => zstore 2 2 i x.1 x.2.1 x.2.2.1 x.2.2.2
  | .iinc i n => zinc i n x.1 x.2.1 x.2.2.1 x.2.2.2
  | .iadd => zop2 (fun x y => some (x + y)) x.1 x.2.1 x.2.2.1 x.2.2.2
  | .isub => zop2 (fun x y => some (x - y)) x.1 x.2.1 x.2.2.1 x.2.2.2
  | .imul => zop2 (fun x y => some (x * y)) x.1 x.2.1 x.2.2.1 x.2.2.2
  | .iand => zop2 (fun x y => some (x &&& y)) x.1 x.2.1 x.2.2.1 x.2.2.2
  | .ior => zop2 (fun x y => some (x ||| y)) x.1 x.2.1 x.2.2.1 x.2.2.2
  | .ixor => zop2 (fun x y => some (x ^^^ y)) x.1 x.2.1 x.2.2.1 x.2.2.2
  | .ishl => zop2 (fun x y => some (x <<< (y &&& 31))) x.1 x.2.1 x.2.2.1 x.2.2.2
  | .ishr => zop2 (fun x y => some (x >>> (y &&& 31))) x.1 x.2.1 x.2.2.1 x.2.2.2
  | .iushr => zop2 (fun x y => some (x.toUInt32 >>> (y.toUInt32 &&& Int32.toUInt32 31)).toInt32) x.1 x.2.1 x.2.2.1 x.2.2.2
  | .idiv => zop2 (fun x y => if y = 0 then none else some (x / y)) x.1 x.2.1 x.2.2.1 x.2.2.2
  | .irem => zop2 (fun x y => if y = 0 then none else some (x - x / y * y)) x.1 x.2.1 x.2.2.1 x.2.2.2
  | .ineg => zop1 (fun x => .inl (-x)) x.1 x.2.1 x.2.2.1 x.2.2.2
  | .i2l => zop1 (fun x => .inr (.inl x.toInt64)) x.1 x.2.1 x.2.2.1 x.2.2.2
  | .i2b => zop1 (fun x => .inl x.toInt8.toInt32) x.1 x.2.1 x.2.2.1 x.2.2.2
  | .i2s => zop1 (fun x => .inl x.toInt16.toInt32) x.1 x.2.1 x.2.2.1 x.2.2.2
  | .ladd => zop2l (fun x y => some (x + y)) x.1 x.2.1 x.2.2.1 x.2.2.2
  | .lsub => zop2l (fun x y => some (x - y)) x.1 x.2.1 x.2.2.1 x.2.2.2
  | .lmul => zop2l (fun x y => some (x * y)) x.1 x.2.1 x.2.2.1 x.2.2.2
  | .ldiv => zop2l (fun x y => if y = 0 then none else some (x / y)) x.1 x.2.1 x.2.2.1 x.2.2.2
  | .lrem => zop2l (fun x y => if y = 0 then none else some (x - x / y * y)) x.1 x.2.1 x.2.2.1 x.2.2.2
  | .lcmp => zlcmp x.1 x.2.1 x.2.2.1 x.2.2.2
  | .dup => zdup x.1 x.2.1 x.2.2.1 x.2.2.2
  | .dup2 => zdup2 x.1 x.2.1 x.2.2.1 x.2.2.2
  | .pop => zpop x.1 x.2.1 x.2.2.1 x.2.2.2
  | .ifCond c off => zjump c off x.1 x.2.1 x.2.2.1 x.2.2.2
  | .if_icmp c off => zjump2 c off x.1 x.2.1 x.2.2.1 x.2.2.2
  | .ifnull off => zjumpN true off x.1 x.2.1 x.2.2.1 x.2.2.2
  | .ifnonnull off => zjumpN false off x.1 x.2.1 x.2.2.1 x.2.2.2
  | .goto off => zgo (ztg x.1 off) x.2.1 x.2.2.1 x.2.2.2
  | .tableswitch d lo hi offs => ztab d lo hi offs x.1 x.2.1 x.2.2.1 x.2.2.2
  | .lookupswitch d ps => zlook d ps x.1 x.2.1 x.2.2.1 x.2.2.2
  | .getfield _ => zget o x.1 x.2.1 x.2.2.1 x.2.2.2
  | .putfield _ => zput o x.1 x.2.1 x.2.2.1 x.2.2.2
  | .iaload => zald x.1 x.2.1 x.2.2.1 x.2.2.2
  | .iastore => zast x.1 x.2.1 x.2.2.1 x.2.2.2
  | .aaload => zaald x.1 x.2.1 x.2.2.1 x.2.2.2
  | .aastore => zaast x.1 x.2.1 x.2.2.1 x.2.2.2
  | .arraylength => zalen x.1 x.2.1 x.2.2.1 x.2.2.2
  | .new _ => znew o x.1 x.2.1 x.2.2.1 x.2.2.2
  | .newarray .int => znewa 2 12 x.1 x.2.1 x.2.2.1 x.2.2.2
  | .anewarray _ => znewa 3 o.2.2.1.toNat x.1 x.2.1 x.2.2.1 x.2.2.2
  | .instanceof _ => zinst o x.1 x.2.1 x.2.2.1 x.2.2.2
  | .invokestatic _ => if o.2.2.1 = -2 then zcopy x.1 x.2.1 x.2.2.1 x.2.2.2 else zcallS cal o x.1 x.2.1 x.2.2.1 x.2.2.2
  | .invokevirtual _ => zcallV cal o x.1 x.2.1 x.2.2.1 x.2.2.2
  | .invokespecial _ => zcallI cal o x.1 x.2.1 x.2.2.1 x.2.2.2
  | .ireturn => zret o x.2.2.1 x.2.2.2
  | .lreturn => zret o x.2.2.1 x.2.2.2
  | .areturn => zret o x.2.2.1 x.2.2.2
  | .return_ => zret o x.2.2.1 x.2.2.2
  | _ => none
/-- so many steps -/
def zex (cal : Nat → List zV → zH → Option zR) (cd : Nat → Option zO) : Nat → zS → Option zR
  | 0, _ => none
  | n + 1, x => match (cd x.1).bind fun o => zstp cal o x with
    | none => none
    | some (.inl r) => some r
    | some (.inr y) => zex cal cd n y
theorem zex_up {cal : Nat → List zV → zH → Option zR} {cd : Nat → Option zO} : ∀ (n k : Nat) (x : zS) (r : zR), zex cal cd n x = some r → zex cal cd (n + k) x = some r
  | 0, _, _, _, h => by simp [zex] at h
  | n + 1, k, x, r, h => by
    rw [Nat.add_right_comm]
    simp only [zex] at h ⊢
    cases hs : (cd x.1).bind fun o => zstp cal o x with
    | none => rw [hs] at h; exact h
    | some w =>
      rw [hs] at h
      cases w with
      | inl q => exact h
      | inr y => exact zex_up n k y r h
theorem zex_one {cal : Nat → List zV → zH → Option zR} {cd : Nat → Option zO} {n k : Nat} {x : zS} {r q : zR} (h : zex cal cd n x = some r) (h2 : zex cal cd k x = some q) : r = q := by
  have a := zex_up n k x r h
  have b := zex_up k n x q h2
  rw [Nat.add_comm] at b
  rw [a] at b
  exact Option.some.inj b
/-- to the end, if there is one -/
noncomputable def zx (cal : Nat → List zV → zH → Option zR) (cd : Nat → Option zO) (x : zS) : Option zR :=
  @dite (Option zR) (∃ r n, zex cal cd n x = some r) (Classical.propDecidable _) (fun h => some (Classical.choose h)) (fun _ => none)
theorem zx_iff {cal : Nat → List zV → zH → Option zR} {cd : Nat → Option zO} {x : zS} {r : zR} : zx cal cd x = some r ↔ ∃ n, zex cal cd n x = some r := by
  unfold zx
  by_cases h : ∃ r n, zex cal cd n x = some r
  · rw [dif_pos h]
    obtain ⟨k, hk⟩ := Classical.choose_spec h
    constructor
    · intro e
      rw [← Option.some.inj e]
      exact ⟨k, hk⟩
    · rintro ⟨n, hn⟩
      rw [zex_one hk hn]
  · rw [dif_neg h]
    constructor
    · intro e
      cases e
    · rintro ⟨n, hn⟩
      exact absurd ⟨r, n, hn⟩ h
/-- what one step makes of it -/
def zaft (k : zS → Option zR) (t : zT) : Option zR := match t with
  | none => none
  | some (.inl r) => some r
  | some (.inr y) => k y
theorem zx_unf (cal : Nat → List zV → zH → Option zR) (cd : Nat → Option zO) (x : zS) : zx cal cd x = zaft (zx cal cd) ((cd x.1).bind fun o => zstp cal o x) := by
  apply Option.ext
  intro r
  rw [zx_iff]
  constructor
  · rintro ⟨n, hn⟩
    cases n with
    | zero => simp [zex] at hn
    | succ n =>
      simp only [zex] at hn
      cases hs : (cd x.1).bind fun o => zstp cal o x with
      | none => rw [hs] at hn; cases hn
      | some w =>
        rw [hs] at hn
        cases w with
        | inl q => exact hn
        | inr y => exact zx_iff.mpr ⟨n, hn⟩
  · intro h
    cases hs : (cd x.1).bind fun o => zstp cal o x with
    | none => rw [hs] at h; cases h
    | some w =>
      rw [hs] at h
      cases w with
      | inl q =>
        refine ⟨1, ?_⟩
        simp only [zex, hs]
        exact h
      | inr y =>
        obtain ⟨n, hn⟩ := zx_iff.mp h
        refine ⟨n + 1, ?_⟩
        simp only [zex, hs]
        exact hn
/-- calls, so deep: P gives a method's locals and code -/
noncomputable def zcall (P : Nat → Nat × (Nat → Option zO)) : Nat → Nat → List zV → zH → Option zR
  | 0, _, _, _ => none
  | d + 1, mid, args, h => if (zlsA args).length ≤ (P mid).1 then zx (zcall P d) (P mid).2 (0, zls args (P mid).1, [], h) else none
theorem zcall_succ (P : Nat → Nat × (Nat → Option zO)) (d mid : Nat) (args : List zV) (h : zH) : zcall P (d + 1) mid args h = if (zlsA args).length ≤ (P mid).1 then zx (zcall P d) (P mid).2 (0, zls args (P mid).1, [], h) else none := by
  simp only [zcall]
end
section
/-! how the machine's heap and locals hold the deep machine's -/
def zadr (b B k : Nat) : Nat := if k = 0 then b else B + (k - 1)
def ztr (b B : Nat) (v : zV) : Value := match v with
  | .inl x => .int x
  | .inr (.inl x) => .long x
  | .inr (.inr r) => va_rf (r.map (zadr b B))
theorem ztr_cat (b B : Nat) (v : zV) : (ztr b B v).category = 2 ↔ zlong v = true := by
  rcases v with x | x | (_ | x) <;> simp [ztr, zlong, Value.category, va_rf]
def zLV (b B : Nat) (la : Array Slot) (nL : Nat) (ls : zL) : Prop := la.size = nL ∧ lv_wf la ∧ ls.length = nL ∧ ∀ (i : Nat) (v : zV), ls[i]? = some (some v) → la[i]? = some (.val (ztr b B v))
def zas (b B : Nat) (ls : zL) : List (Nat × Value) := (List.range ls.length).filterMap fun i => (zld ls i).map fun v => (i, ztr b B v)
theorem zld_iff {ls : zL} {i : Nat} {v : zV} : zld ls i = some v ↔ ls[i]? = some (some v) := by
  unfold zld
  rcases h : ls[i]? with _ | (_ | w) <;> simp
theorem zas_mem {b B : Nat} {ls : zL} {i : Nat} {v : zV} (h : ls[i]? = some (some v)) : (i, ztr b B v) ∈ zas b B ls := by
  refine List.mem_filterMap.mpr ⟨i, List.mem_range.mpr (List.getElem?_eq_some_iff.mp h).1, ?_⟩
  rw [zld_iff.mpr h]
  rfl
theorem zLV.has {b B : Nat} {la : Array Slot} {nL : Nat} {ls : zL} (h : zLV b B la nL ls) : lv_has la nL (zas b B ls) := by
  refine ⟨h.1, h.2.1, fun q hq => ?_⟩
  obtain ⟨i, -, hi⟩ := List.mem_filterMap.mp hq
  cases hv : zld ls i with
  | none => rw [hv] at hi; cases hi
  | some v =>
    rw [hv] at hi
    cases hi
    exact h.2.2.2 i v (zld_iff.mp hv)
theorem zst1_len : ∀ (ls : zL) (i : Nat) (v : zV), (zst1 ls i v).length = ls.length
  | [], _, _ => by simp [zst1]
  | _ :: ls, 0, v => by simp [zst1]
  | [x], 1, _ => by simp [zst1]
  | x :: _ :: ls, 1, v => by simp [zst1]
  | x :: ls, k + 2, v => by simp [zst1, zst1_len ls (k + 1) v]
theorem zcl_some {x : Option zV} {w : zV} (h : zcl x = some w) : x = some w ∧ zlong w = false := by
  rcases x with _ | (x | x | x) <;> simp [zcl] at h <;> subst h <;> simp [zlong]
theorem zst1_get : ∀ (ls : zL) (i : Nat) (v : zV) (j : Nat) (w : zV), i < ls.length → (zst1 ls i v)[j]? = some (some w) → (j = i ∧ w = v) ∨ (j ≠ i ∧ ls[j]? = some (some w) ∧ ¬ (j + 1 = i ∧ zlong w = true))
  | [], _, _, _, _, hi, _ => absurd hi (Nat.not_lt_zero _)
  | y :: ls, 0, v, j, w, _, h => by
    cases j with
    | zero =>
      simp [zst1] at h
      exact Or.inl ⟨rfl, h.symm⟩
    | succ j =>
      simp [zst1] at h
      exact Or.inr ⟨by omega, by simpa using h, by omega⟩
  | [x], 1, v, j, w, hi, h => by simp at hi
  | x :: y :: ls, 1, v, j, w, _, h => by
    match j, h with
    | 0, h =>
      simp [zst1] at h
      obtain ⟨h1, h2⟩ := zcl_some h
      exact Or.inr ⟨by omega, by simp [h1], fun q => by rw [h2] at q; exact absurd q.2 (by decide)⟩
    | 1, h =>
      simp [zst1] at h
      exact Or.inl ⟨rfl, h.symm⟩
    | j + 2, h =>
      simp [zst1] at h
      exact Or.inr ⟨by omega, by simpa using h, by omega⟩
  | x :: ls, k + 2, v, j, w, hi, h => by
    cases j with
    | zero =>
      simp [zst1] at h
      exact Or.inr ⟨by omega, by simp [h], by omega⟩
    | succ j =>
      simp [zst1] at h
      rcases zst1_get ls (k + 1) v j w (by simp at hi; omega) h with ⟨h1, h2⟩ | ⟨h1, h2, h3⟩
      · exact Or.inl ⟨by omega, h2⟩
      · exact Or.inr ⟨by omega, by simpa using h2, fun q => h3 ⟨by omega, q.2⟩⟩
theorem zLV.st1 {b B : Nat} {la : Array Slot} {nL : Nat} {ls : zL} {i : Nat} {v : zV} (hn : ls.length = nL) (hi : i < nL) (h : lv_has la nL ((i, ztr b B v) :: (zas b B ls).filter (fun q => !(q.1 == i) && !(q.1 + 1 == i && q.2.category == 2)))) : zLV b B la nL (zst1 ls i v) := by
  refine ⟨h.1, h.2.1, by rw [zst1_len, hn], fun j w hj => ?_⟩
  rcases zst1_get ls i v j w (by omega) hj with ⟨rfl, rfl⟩ | ⟨h1, h2, h3⟩
  · exact h.2.2 (j, ztr b B w) List.mem_cons_self
  · refine h.2.2 (j, ztr b B w) (List.mem_cons_of_mem _ (List.mem_filter.mpr ⟨zas_mem h2, ?_⟩))
    have := ztr_cat b B w
    simp only [Bool.and_eq_true, Bool.not_eq_true', beq_eq_false_iff_ne, ne_eq, Bool.and_eq_false_iff]
    refine ⟨h1, ?_⟩
    by_cases q : j + 1 = i
    · exact Or.inr (fun z => h3 ⟨q, this.mp z⟩)
    · exact Or.inl q
theorem zLV.st2 {b B : Nat} {la : Array Slot} {nL : Nat} {ls : zL} {i : Nat} {v : zV} (hn : ls.length = nL) (hi : i + 1 < nL) (h : lv_has la nL ((i, ztr b B v) :: (zas b B ls).filter (fun q => !(q.1 == i) && (!(q.1 == i + 1) && !(q.1 + 1 == i && q.2.category == 2))))) : zLV b B la nL (zst2 ls i v) := by
  refine ⟨h.1, h.2.1, by rw [zst2, List.length_set, zst1_len, hn], fun j w hj => ?_⟩
  have hne : j ≠ i + 1 := by
    rintro rfl
    rw [zst2, List.getElem?_set_self (by rw [zst1_len]; omega)] at hj
    cases hj
  rw [zst2, List.getElem?_set_ne (Ne.symm hne)] at hj
  rcases zst1_get ls i v j w (by omega) hj with ⟨rfl, rfl⟩ | ⟨h1, h2, h3⟩
  · exact h.2.2 (j, ztr b B w) List.mem_cons_self
  · refine h.2.2 (j, ztr b B w) (List.mem_cons_of_mem _ (List.mem_filter.mpr ⟨zas_mem h2, ?_⟩))
    have := ztr_cat b B w
    simp only [Bool.and_eq_true, Bool.not_eq_true', beq_eq_false_iff_ne, ne_eq, Bool.and_eq_false_iff]
    refine ⟨h1, hne, ?_⟩
    by_cases q : j + 1 = i
    · exact Or.inr (fun z => h3 ⟨q, this.mp z⟩)
    · exact Or.inl q
/-! the heap -/
def zNF (t : Nat) : Nat := match t with
  | 0 => 5 | 1 => 3 | 2 => 2 | 3 => 5 | 4 => 8 | 5 => 5 | 6 => 4 | 7 => 3 | 8 => 5 | 9 => 1 | 10 => 12 | _ => 43
def zTy (t : Nat) : Nat → FieldType := match t with
  | 0 => tyX0 | 1 => tyX1 | 2 => tyX2 | 3 => tyX3 | 4 => tyX4 | 5 => tyX5 | 6 => tyX6 | 7 => tyX7 | 8 => tyX8 | 9 => tyX9 | 10 => tyX10 | _ => tyX11
def zisI (ty : FieldType) : Bool := match ty with
  | .int => true
  | .boolean => true
  | _ => false
def zfv (b B : Nat) (h : zH) (a j : Nat) : Value := if zisI (zTy (zk h a).1 j) = true then .int (zi h a j) else va_rf ((zr h a j).map (zadr b B))
def zcell (b B : Nat) (cA : Nat → ClassId) (h : zH) (a : Nat) : va_E := if (zk h a).1 < 12 then .inr ((zk h a).1, (List.range (zNF (zk h a).1)).map (zfv b B h a)) else if (zk h a).1 = 12 then .inl (cA 0, (zk h a).2, .inl (zi h a)) else .inl (cA ((zk h a).1 - 12), (zk h a).2, .inr (.inr (.inr (.inr (fun j => (zr h a j).map (zadr b B))))))
def zws (b B : Nat) (cA : Nat → ClassId) (h : zH) : va_W := (List.range (zn h - 1)).map fun k => (B + k, zcell b B cA h (k + 1))
def zRep (b B L : Nat) (xs : Nat → Int32) (dC : Nat → ClassId) (dI : Nat → Nat → Nat) (cA : Nat → ClassId) (h : zH) (H : Heap) : Prop :=
  va_P (dC, dI) vwCl (zws b B cA h) H ∧ H.size + 1 = B + zn h ∧ 1 ≤ zn h ∧ (∀ a, zn h ≤ a → (zk h a).1 = 99) ∧ (∀ a, 1 ≤ a → a < zn h → (zk h a).1 < 16) ∧ zk h 0 = (16, L) ∧ ∀ j, j < L → zi h 0 j = xs j
section ZREP
variable {b B L : Nat} {xs : Nat → Int32} {dC : Nat → ClassId} {dI : Nat → Nat → Nat} {cA : Nat → ClassId} {h h' : zH} {H H' : Heap}
theorem zRep.in (r : zRep b B L xs dC dI cA h H) {a : Nat} (ha : (zk h a).1 < 16) : 1 ≤ a ∧ a < zn h := by
  obtain ⟨-, -, h1, h2, -, h4, -⟩ := r
  refine ⟨?_, ?_⟩
  · rcases Nat.eq_zero_or_pos a with q | q
    · subst q
      rw [h4] at ha
      exact absurd ha (by simp)
    · exact q
  · rcases Nat.lt_or_ge a (zn h) with q | q
    · exact q
    · rw [h2 a q] at ha
      exact absurd ha (by simp)
theorem zadr_pos {b B a : Nat} (h : 1 ≤ a) : zadr b B a = B + (a - 1) := by
  unfold zadr
  rw [if_neg (by omega)]
theorem zws_get (b B : Nat) (cA : Nat → ClassId) (h : zH) {a : Nat} (h1 : 1 ≤ a) (h2 : a < zn h) : (zws b B cA h)[a - 1]? = some (zadr b B a, zcell b B cA h a) := by
  unfold zws
  rw [List.getElem?_map, List.getElem?_range (by omega)]
  show some (B + (a - 1), zcell b B cA h (a - 1 + 1)) = _
  rw [zadr_pos h1, Nat.sub_add_cancel h1]
theorem zws_D (b B : Nat) (cA : Nat → ClassId) (h : zH) : va_D (fun q => B ≤ q) (zws b B cA h) := by
  have key : ∀ (i : Nat) (p : Nat × va_E), (zws b B cA h)[i]? = some p → p.1 = B + i := by
    intro i p hp
    have hl : i < zn h - 1 := by
      have := (List.getElem?_eq_some_iff.mp hp).1
      simpa [zws] using this
    rw [zws, List.getElem?_map, List.getElem?_range hl] at hp
    cases hp
    rfl
  refine ⟨fun i j p q hi hj hpq => ?_, fun k q hk => ?_⟩
  · rw [key i p hi, key j q hj] at hpq
    omega
  · rw [key k q hk]
    exact Nat.le_add_right _ _
theorem zws_set {a : Nat} (h1 : 1 ≤ a) (h2 : a < zn h) (hn : zn h' = zn h) (ho : ∀ x, x ≠ a → zcell b B cA h' x = zcell b B cA h x) : (zws b B cA h).set (a - 1) (zadr b B a, zcell b B cA h' a) = zws b B cA h' := by
  apply List.ext_getElem?
  intro i
  have hlen : (zws b B cA h).length = zn h - 1 := by simp [zws]
  by_cases hi : i = a - 1
  · subst hi
    rw [List.getElem?_set_self (by rw [hlen]; omega), zws_get b B cA h' h1 (by omega)]
  · rw [List.getElem?_set_ne (Ne.symm hi)]
    unfold zws
    rw [hn, List.getElem?_map, List.getElem?_map]
    by_cases hl : i < zn h - 1
    · rw [List.getElem?_range hl]
      show some (B + i, zcell b B cA h (i + 1)) = some (B + i, zcell b B cA h' (i + 1))
      rw [ho (i + 1) (by omega)]
    · rw [List.getElem?_eq_none (by simp; omega)]
      rfl
theorem zRep.put (r : zRep b B L xs dC dI cA h H) {a : Nat} (ha : (zk h a).1 < 16) (hn : zn h' = zn h) (hk : ∀ x, zk h' x = zk h x) (ho : ∀ x, x ≠ a → zcell b B cA h' x = zcell b B cA h x) (h0 : ∀ j, zi h' 0 j = zi h 0 j) (hz : H'.size = H.size)
    (hP : va_P (dC, dI) vwCl ((zws b B cA h).set (a - 1) (zadr b B a, zcell b B cA h' a)) H') : zRep b B L xs dC dI cA h' H' := by
  obtain ⟨h1, h2⟩ := r.in ha
  rw [zws_set h1 h2 hn ho] at hP
  obtain ⟨-, r2, r3, r4, r5, r6, r7⟩ := r
  refine ⟨hP, by rw [hz, hn]; exact r2, by rw [hn]; exact r3, fun x hx => ?_, fun x hx hx2 => ?_, by rw [hk]; exact r6, fun j hj => by rw [h0]; exact r7 j hj⟩
  · rw [hk]; exact r4 x (by rw [← hn]; exact hx)
  · rw [hk]; exact r5 x hx (by rw [← hn]; exact hx2)
end ZREP
theorem zk_wI (h : zH) (a j : Nat) (v : Int32) (x : Nat) : zk (zwI h a j v) x = zk h x := rfl
theorem zr_wI (h : zH) (a j : Nat) (v : Int32) (x y : Nat) : zr (zwI h a j v) x y = zr h x y := rfl
theorem zi_wI (h : zH) (a j : Nat) (v : Int32) (x y : Nat) : zi (zwI h a j v) x y = if x = a ∧ y = j then v else zi h x y := rfl
theorem zn_wI (h : zH) (a j : Nat) (v : Int32) : zn (zwI h a j v) = zn h := rfl
theorem zu_wI (h : zH) (a j : Nat) (v : Int32) : zu (zwI h a j v) = zu h := rfl
theorem zk_wR (h : zH) (a j : Nat) (v : Option Nat) (x : Nat) : zk (zwR h a j v) x = zk h x := rfl
theorem zi_wR (h : zH) (a j : Nat) (v : Option Nat) (x y : Nat) : zi (zwR h a j v) x y = zi h x y := rfl
theorem zr_wR (h : zH) (a j : Nat) (v : Option Nat) (x y : Nat) : zr (zwR h a j v) x y = if x = a ∧ y = j then v else zr h x y := rfl
theorem zn_wR (h : zH) (a j : Nat) (v : Option Nat) : zn (zwR h a j v) = zn h := rfl
theorem zu_wR (h : zH) (a j : Nat) (v : Option Nat) : zu (zwR h a j v) = zu h := rfl
theorem zk_wC (h : zH) (a sp b dp n x : Nat) : zk (zwC h a sp b dp n) x = zk h x := rfl
theorem zr_wC (h : zH) (a sp b dp n x y : Nat) : zr (zwC h a sp b dp n) x y = zr h x y := rfl
theorem zi_wC (h : zH) (a sp b dp n x y : Nat) : zi (zwC h a sp b dp n) x y = if x = b ∧ dp ≤ y ∧ y < dp + n then zi h a (sp + (y - dp)) else zi h x y := rfl
theorem zn_wC (h : zH) (a sp b dp n : Nat) : zn (zwC h a sp b dp n) = zn h := rfl
theorem zu_wC (h : zH) (a sp b dp n : Nat) : zu (zwC h a sp b dp n) = zu h := rfl
theorem zk_N (h : zH) (t n N x : Nat) : zk (zN h t n N) x = if x = zn h then (t, n) else zk h x := rfl
theorem zi_N (h : zH) (t n N x y : Nat) : zi (zN h t n N) x y = if x = zn h then 0 else zi h x y := rfl
theorem zr_N (h : zH) (t n N x y : Nat) : zr (zN h t n N) x y = if x = zn h then none else zr h x y := rfl
theorem zn_N (h : zH) (t n N : Nat) : zn (zN h t n N) = zn h + 1 := rfl
theorem zu_N (h : zH) (t n N : Nat) : zu (zN h t n N) = zu h + N := rfl
end
section
/-! what every frame stands on -/
def zGood : List Cond := lw_tbl.filter goodWord
def ztys (cA : Nat → ClassId) : List (ClassId × FieldType) := [(cA 0, .int), (cA 1, .object "CorpseTales$Tale"), (cA 2, .object "CorpseTales$Night"), (cA 3, .object "CorpseTales$Sheet")]
def znest (w : Cond) : Bool := match w with
  | .methodLinkNest _ _ _ _ => true
  | .castable _ _ => true
  | .arrayOver (.object _) => true
  | _ => false
def zK (dC : Nat → ClassId) (dI : Nat → Nat → Nat) (cA : Nat → ClassId) (U : State) : Prop := va_K (dC, dI) vwCl (ztys cA) U ∧ (∀ w ∈ lw_tbl, znest w = true → va_Nw w U) ∧ va_Nc RX8 RX5 U ∧ va_Nc RX8 RX0 U ∧ va_Nc RX0 RX5 U
theorem zK.moved {dC : Nat → ClassId} {dI : Nat → Nat → Nat} {cA : Nat → ClassId} {s U : State} (hW : s.WarmedH U.vm) (h : zK dC dI cA s) : zK dC dI cA U := by
  obtain ⟨h1, h2, h3, h4, h5⟩ := h
  refine ⟨h1.moved hW.alike, fun w hw hn => ?_, h3.moved hW.alike, h4.moved hW.alike, h5.moved hW.alike⟩
  have hz := h2 w hw hn
  cases w <;> simp [znest] at hn
  case methodLinkNest => exact hz.warmM hW
  case castable => exact hz.warmC hW
  case arrayOver t =>
    cases t <;> simp at hn
    exact va_AO.moved hW.alike hz
def zF (t : Nat) : u_T := match t with
  | 0 => TX0 | 1 => TX1 | 2 => TX2 | 3 => TX3 | 4 => TX4 | 5 => TX5 | 6 => TX6 | 7 => TX7 | 8 => TX8 | 9 => TX9 | 10 => TX10 | _ => TX11
def zC (t : Nat) : String := match t with
  | 0 => RX0 | 1 => RX1 | 2 => RX2 | 3 => RX3 | 4 => RX4 | 5 => RX5 | 6 => RX6 | 7 => RX7 | 8 => RX8 | 9 => RX9 | 10 => RX10 | _ => RX11
theorem zcases {P : Nat → Prop} (h0 : P 0) (h1 : P 1) (h2 : P 2) (h3 : P 3) (h4 : P 4) (h5 : P 5) (h6 : P 6) (h7 : P 7) (h8 : P 8) (h9 : P 9) (h10 : P 10) (h11 : P 11) : ∀ t, t < 12 → P t := by
  intro t ht
  match t, ht with
  | 0, _ => exact h0
  | 1, _ => exact h1
  | 2, _ => exact h2
  | 3, _ => exact h3
  | 4, _ => exact h4
  | 5, _ => exact h5
  | 6, _ => exact h6
  | 7, _ => exact h7
  | 8, _ => exact h8
  | 9, _ => exact h9
  | 10, _ => exact h10
  | 11, _ => exact h11
theorem zcl_at : ∀ t, t < 12 → vwCl[t]? = some (zC t, zF t, zNF t) := zcases rfl rfl rfl rfl rfl rfl rfl rfl rfl rfl rfl rfl
theorem zin_at : ∀ t, t < 12 → ∀ w ∈ u_ws (zC t) (zF t) (zNF t), w ∈ zGood := zcases (by decide +kernel) (by decide +kernel) (by decide +kernel) (by decide +kernel) (by decide +kernel) (by decide +kernel) (by decide +kernel) (by decide +kernel) (by decide +kernel) (by decide +kernel) (by decide +kernel) (by decide +kernel)
theorem zty_at : ∀ t, t < 12 → ∀ k, k < zNF t → parseFieldDescriptor (zF t k).2.2.1 = some (zTy t k) := zcases tyX0_ok tyX1_ok tyX2_ok tyX3_ok tyX4_ok tyX5_ok tyX6_ok tyX7_ok tyX8_ok tyX9_ok tyX10_ok tyX11_ok
theorem znm_at : ∀ t, t < 12 → ∀ a, a < zNF t → ∀ b, b < zNF t → a ≠ b → (zF t a).2.1 ≠ (zF t b).2.1 := zcases nmX0 nmX1 nmX2 nmX3 nmX4 nmX5 nmX6 nmX7 nmX8 nmX9 nmX10 nmX11
def zCx (p : Program) (s : State) (m : MethodId) (args : Array Value) (meth : Method) (c : Code) (cc : ByteArray) (own nm : String) (nL b B L : Nat) (xs : Nat → Int32) (dC : Nat → ClassId) (dI : Nat → Nat → Nat) (cA : Nat → ClassId) : Prop :=
  p.tables.exec = Jvm.exec ∧ c.code = cc ∧ c.maxLocals = nL ∧ s.vm.findClass own = some m.cls ∧ (∀ w ∈ zGood, w.before args s = true) ∧ zK dC dI cA s ∧ va_X b L xs s s.heap ∧ b < B ∧ B ≤ s.heap.size ∧ meth.locks = false ∧ meth.name = nm
def zWA (p : Program) (l : Launch) (e : Env) (R : Room) (s : State) (m : MethodId) (args : Array Value) (below : List Frame) (meth : Method) (c : Code) (Q : State → Prop) (b B L : Nat) (xs : Nat → Int32) (dC : Nat → ClassId) (dI : Nat → Nat → Nat) (cA : Nat → ClassId) (n0 u0 nL : Nat) (x : zS) : Prop :=
  ∀ (H : Heap) (locs : List Loc) (la : Array Slot), zRep b B L xs dC dI cA x.2.2.2 H → va_S (fun q => B ≤ q) s.heap H locs → zLV b B la nL x.2.1 → W p l e R s m args below meth c H locs (zn x.2.2.2 - n0) (zu x.2.2.2 - u0) Q (F0 m x.1 la (x.2.2.1.map (ztr b B)))
section ZOPS
variable {p : Program} {l : Launch} {e : Env} {R : Room} {s : State} {m : MethodId} {args : Array Value} {below : List Frame} {meth : Method} {c : Code} {Q : State → Prop} {cc : ByteArray} {own nm : String} {nL b B L n0 u0 : Nat} {xs : Nat → Int32} {dC : Nat → ClassId} {dI : Nat → Nat → Nat} {cA : Nat → ClassId}
variable {pc : Nat} {ls : zL} {st : List zV} {h : zH} {y : zS}
/-- steps that leave the heap and the locals as they are -/
theorem zs_push {v : zV} {k : Nat} (hs : zpush k pc ls st h v = some (.inr y)) (hr : ∀ (H : Heap) (locs : List Loc) (la : Array Slot) (ce sl : Nat) (r : List Value), W p l e R s m args below meth c H locs ce sl Q (F0 m (pc + k) la (ztr b B v :: r)) → W p l e R s m args below meth c H locs ce sl Q (F0 m pc la r))
    (hW : zWA p l e R s m args below meth c Q b B L xs dC dI cA n0 u0 nL y) : zWA p l e R s m args below meth c Q b B L xs dC dI cA n0 u0 nL (pc, ls, st, h) := by
  simp only [zpush, Option.some.injEq, Sum.inr.injEq] at hs
  subst hs
  intro H locs la hR hS hl
  exact hr _ _ _ _ _ _ (hW H locs la hR hS hl)
theorem zs_op2 {f : Int32 → Int32 → Option Int32} (hs : zop2 f pc ls st h = some (.inr y)) (hr : ∀ (u v w : Int32), f u v = some w → ∀ (H : Heap) (locs : List Loc) (la : Array Slot) (ce sl : Nat) (r : List Value), W p l e R s m args below meth c H locs ce sl Q (F0 m (pc + 1) la (.int w :: r)) → W p l e R s m args below meth c H locs ce sl Q (F0 m pc la (.int v :: .int u :: r)))
    (hW : zWA p l e R s m args below meth c Q b B L xs dC dI cA n0 u0 nL y) : zWA p l e R s m args below meth c Q b B L xs dC dI cA n0 u0 nL (pc, ls, st, h) := by
  unfold zop2 at hs
  split at hs
  · rename_i v u r
    cases hf : f u v with
    | none => rw [hf] at hs; cases hs
    | some w =>
      rw [hf] at hs
      simp only [Option.bind_some, zgo, Option.some.injEq, Sum.inr.injEq] at hs
      subst hs
      intro H locs la hR hS hl
      exact hr u v w hf _ _ _ _ _ _ (hW H locs la hR hS hl)
  · cases hs
theorem zs_op2l {f : Int64 → Int64 → Option Int64} (hs : zop2l f pc ls st h = some (.inr y)) (hr : ∀ (u v w : Int64), f u v = some w → ∀ (H : Heap) (locs : List Loc) (la : Array Slot) (ce sl : Nat) (r : List Value), W p l e R s m args below meth c H locs ce sl Q (F0 m (pc + 1) la (.long w :: r)) → W p l e R s m args below meth c H locs ce sl Q (F0 m pc la (.long v :: .long u :: r)))
    (hW : zWA p l e R s m args below meth c Q b B L xs dC dI cA n0 u0 nL y) : zWA p l e R s m args below meth c Q b B L xs dC dI cA n0 u0 nL (pc, ls, st, h) := by
  unfold zop2l at hs
  split at hs
  · rename_i v u r
    cases hf : f u v with
    | none => rw [hf] at hs; cases hs
    | some w =>
      rw [hf] at hs
      simp only [Option.bind_some, zgo, Option.some.injEq, Sum.inr.injEq] at hs
      subst hs
      intro H locs la hR hS hl
      exact hr u v w hf _ _ _ _ _ _ (hW H locs la hR hS hl)
  · cases hs
theorem zs_op1 {f : Int32 → zV} (hs : zop1 f pc ls st h = some (.inr y)) (hr : ∀ (u : Int32) (H : Heap) (locs : List Loc) (la : Array Slot) (ce sl : Nat) (r : List Value), W p l e R s m args below meth c H locs ce sl Q (F0 m (pc + 1) la (ztr b B (f u) :: r)) → W p l e R s m args below meth c H locs ce sl Q (F0 m pc la (.int u :: r)))
    (hW : zWA p l e R s m args below meth c Q b B L xs dC dI cA n0 u0 nL y) : zWA p l e R s m args below meth c Q b B L xs dC dI cA n0 u0 nL (pc, ls, st, h) := by
  unfold zop1 at hs
  split at hs
  · rename_i u r
    simp only [zgo, Option.some.injEq, Sum.inr.injEq] at hs
    subst hs
    intro H locs la hR hS hl
    exact hr u _ _ _ _ _ _ (hW H locs la hR hS hl)
  · cases hs
theorem zs_lcmp (hx : p.tables.exec = Jvm.exec) (hb : c.code = cc) (hdg : decode cc pc = .ok (.lcmp, 1)) (hs : zlcmp pc ls st h = some (.inr y))
    (hW : zWA p l e R s m args below meth c Q b B L xs dC dI cA n0 u0 nL y) : zWA p l e R s m args below meth c Q b B L xs dC dI cA n0 u0 nL (pc, ls, st, h) := by
  unfold zlcmp at hs
  split at hs
  · simp only [zgo, Option.some.injEq, Sum.inr.injEq] at hs
    subst hs
    intro H locs la hR hS hl
    exact W.lcmp hx hb hdg (hW H locs la hR hS hl)
  · cases hs
theorem zs_dup (hx : p.tables.exec = Jvm.exec) (hb : c.code = cc) (hdg : decode cc pc = .ok (.dup, 1)) (hs : zdup pc ls st h = some (.inr y))
    (hW : zWA p l e R s m args below meth c Q b B L xs dC dI cA n0 u0 nL y) : zWA p l e R s m args below meth c Q b B L xs dC dI cA n0 u0 nL (pc, ls, st, h) := by
  unfold zdup at hs
  split at hs
  · rename_i v r
    split at hs
    · rename_i hv
      simp only [zgo, Option.some.injEq, Sum.inr.injEq] at hs
      subst hs
      intro H locs la hR hS hl
      refine lv_dup hx hb hdg ?_ (hW H locs la hR hS hl)
      rcases lv_cat (ztr b B v) with q | q
      · exact q
      · rw [(ztr_cat b B v).mp q] at hv
        cases hv
    · cases hs
  · cases hs
theorem zs_pop (hx : p.tables.exec = Jvm.exec) (hb : c.code = cc) (hdg : decode cc pc = .ok (.pop, 1)) (hs : zpop pc ls st h = some (.inr y))
    (hW : zWA p l e R s m args below meth c Q b B L xs dC dI cA n0 u0 nL y) : zWA p l e R s m args below meth c Q b B L xs dC dI cA n0 u0 nL (pc, ls, st, h) := by
  unfold zpop at hs
  split at hs
  · rename_i v r
    split at hs
    · rename_i hv
      simp only [zgo, Option.some.injEq, Sum.inr.injEq] at hs
      subst hs
      intro H locs la hR hS hl
      refine lv_pop hx hb hdg ?_ (hW H locs la hR hS hl)
      rcases lv_cat (ztr b B v) with q | q
      · exact q
      · rw [(ztr_cat b B v).mp q] at hv
        cases hv
    · cases hs
  · cases hs
theorem zs_dup2 (hx : p.tables.exec = Jvm.exec) (hb : c.code = cc) (hdg : decode cc pc = .ok (.dup2, 1)) (hs : zdup2 pc ls st h = some (.inr y))
    (hW : zWA p l e R s m args below meth c Q b B L xs dC dI cA n0 u0 nL y) : zWA p l e R s m args below meth c Q b B L xs dC dI cA n0 u0 nL (pc, ls, st, h) := by
  unfold zdup2 at hs
  split at hs
  · rename_i v w r
    split at hs
    · rename_i hv
      simp only [zgo, Option.some.injEq, Sum.inr.injEq] at hs
      subst hs
      intro H locs la hR hS hl
      refine lv_dup2_11 hx hb hdg ?_ ?_ (hW H locs la hR hS hl)
      · rcases lv_cat (ztr b B v) with q | q
        · exact q
        · rw [(ztr_cat b B v).mp q] at hv
          exact absurd hv.1 (by decide)
      · rcases lv_cat (ztr b B w) with q | q
        · exact q
        · rw [(ztr_cat b B w).mp q] at hv
          exact absurd hv.2 (by decide)
    · cases hs
  · cases hs
/-- jumps -/
theorem zs_goto (hx : p.tables.exec = Jvm.exec) (hb : c.code = cc) {off : Int} (hdg : decode cc pc = .ok (.goto off, 3)) (ht : (pc : Int) + off = (ztg pc off : Int)) (hs : zgo (ztg pc off) ls st h = some (.inr y))
    (hW : zWA p l e R s m args below meth c Q b B L xs dC dI cA n0 u0 nL y) : zWA p l e R s m args below meth c Q b B L xs dC dI cA n0 u0 nL (pc, ls, st, h) := by
  simp only [zgo, Option.some.injEq, Sum.inr.injEq] at hs
  subst hs
  intro H locs la hR hS hl
  exact lv_goto hx hb hdg ht (hW H locs la hR hS hl)
theorem zs_jump (hx : p.tables.exec = Jvm.exec) (hb : c.code = cc) {cd : ClassFile.Cond} {off : Int} (hdg : decode cc pc = .ok (.ifCond cd off, 3)) (ht : (pc : Int) + off = (ztg pc off : Int)) (hs : zjump cd off pc ls st h = some (.inr y))
    (hW : zWA p l e R s m args below meth c Q b B L xs dC dI cA n0 u0 nL y) : zWA p l e R s m args below meth c Q b B L xs dC dI cA n0 u0 nL (pc, ls, st, h) := by
  unfold zjump at hs
  split at hs
  · rename_i v r
    intro H locs la hR hS hl
    show W _ _ _ _ _ _ _ _ _ _ _ _ _ _ _ (F0 m pc la (.int v :: r.map (ztr b B)))
    split at hs <;> rename_i hv <;> simp only [zgo, Option.some.injEq, Sum.inr.injEq] at hs <;> subst hs <;> have K := hW H locs la hR hS hl <;> cases cd <;> simp [zcond] at hv
    · exact lv_if_eq hx hb hdg ht (fun _ => K) (fun q => absurd hv q)
    · exact lv_if_ne hx hb hdg ht (fun _ => K) (fun q => absurd q hv)
    · exact lv_if_lt hx hb hdg ht (fun _ => K) (fun q => absurd hv (by simpa using q))
    · exact lv_if_ge hx hb hdg ht (fun _ => K) (fun q => absurd hv (by simpa using q))
    · exact lv_if_gt hx hb hdg ht (fun _ => K) (fun q => absurd hv (by simpa using q))
    · exact lv_if_le hx hb hdg ht (fun _ => K) (fun q => absurd hv (by simpa using q))
    · exact lv_if_eq hx hb hdg ht (fun q => absurd q hv) (fun _ => K)
    · exact lv_if_ne hx hb hdg ht (fun q => absurd hv q) (fun _ => K)
    · exact lv_if_lt hx hb hdg ht (fun q => absurd q (by simpa using hv)) (fun _ => K)
    · exact lv_if_ge hx hb hdg ht (fun q => absurd q (by simpa using hv)) (fun _ => K)
    · exact lv_if_gt hx hb hdg ht (fun q => absurd q (by simpa using hv)) (fun _ => K)
    · exact lv_if_le hx hb hdg ht (fun q => absurd q (by simpa using hv)) (fun _ => K)
  · cases hs
theorem zs_jump2 (hx : p.tables.exec = Jvm.exec) (hb : c.code = cc) {cd : ClassFile.Cond} {off : Int} (hdg : decode cc pc = .ok (.if_icmp cd off, 3)) (ht : (pc : Int) + off = (ztg pc off : Int)) (hs : zjump2 cd off pc ls st h = some (.inr y))
    (hW : zWA p l e R s m args below meth c Q b B L xs dC dI cA n0 u0 nL y) : zWA p l e R s m args below meth c Q b B L xs dC dI cA n0 u0 nL (pc, ls, st, h) := by
  unfold zjump2 at hs
  split at hs
  · rename_i w v r
    intro H locs la hR hS hl
    show W _ _ _ _ _ _ _ _ _ _ _ _ _ _ _ (F0 m pc la (.int w :: .int v :: r.map (ztr b B)))
    split at hs <;> rename_i hv <;> simp only [zgo, Option.some.injEq, Sum.inr.injEq] at hs <;> subst hs <;> have K := hW H locs la hR hS hl <;> cases cd <;> simp [zcond] at hv
    · exact lv_icmp_eq hx hb hdg ht (fun _ => K) (fun q => absurd hv q)
    · exact lv_icmp_ne hx hb hdg ht (fun _ => K) (fun q => absurd q hv)
    · exact lv_icmp_lt hx hb hdg ht (fun _ => K) (fun q => absurd hv (by simpa using q))
    · exact lv_icmp_ge hx hb hdg ht (fun _ => K) (fun q => absurd hv (by simpa using q))
    · exact lv_icmp_gt hx hb hdg ht (fun _ => K) (fun q => absurd hv (by simpa using q))
    · exact lv_icmp_le hx hb hdg ht (fun _ => K) (fun q => absurd hv (by simpa using q))
    · exact lv_icmp_eq hx hb hdg ht (fun q => absurd q hv) (fun _ => K)
    · exact lv_icmp_ne hx hb hdg ht (fun q => absurd hv q) (fun _ => K)
    · exact lv_icmp_lt hx hb hdg ht (fun q => absurd q (by simpa using hv)) (fun _ => K)
    · exact lv_icmp_ge hx hb hdg ht (fun q => absurd q (by simpa using hv)) (fun _ => K)
    · exact lv_icmp_gt hx hb hdg ht (fun q => absurd q (by simpa using hv)) (fun _ => K)
    · exact lv_icmp_le hx hb hdg ht (fun q => absurd q (by simpa using hv)) (fun _ => K)
  · cases hs
theorem zs_null (hx : p.tables.exec = Jvm.exec) (hb : c.code = cc) {off : Int} (hdg : decode cc pc = .ok (.ifnull off, 3)) (ht : (pc : Int) + off = (ztg pc off : Int)) (hs : zjumpN true off pc ls st h = some (.inr y))
    (hW : zWA p l e R s m args below meth c Q b B L xs dC dI cA n0 u0 nL y) : zWA p l e R s m args below meth c Q b B L xs dC dI cA n0 u0 nL (pc, ls, st, h) := by
  unfold zjumpN at hs
  split at hs
  · rename_i q r
    intro H locs la hR hS hl
    cases q with
    | none =>
      simp [zgo] at hs
      subst hs
      exact lv_ifnullN hx hb hdg ht (hW H locs la hR hS hl)
    | some q =>
      simp [zgo] at hs
      subst hs
      exact lv_ifnull hx hb hdg (hW H locs la hR hS hl)
  · cases hs
theorem zs_nonnull (hx : p.tables.exec = Jvm.exec) (hb : c.code = cc) {off : Int} (hdg : decode cc pc = .ok (.ifnonnull off, 3)) (ht : (pc : Int) + off = (ztg pc off : Int)) (hs : zjumpN false off pc ls st h = some (.inr y))
    (hW : zWA p l e R s m args below meth c Q b B L xs dC dI cA n0 u0 nL y) : zWA p l e R s m args below meth c Q b B L xs dC dI cA n0 u0 nL (pc, ls, st, h) := by
  unfold zjumpN at hs
  split at hs
  · rename_i q r
    intro H locs la hR hS hl
    cases q with
    | none =>
      simp [zgo] at hs
      subst hs
      exact lv_ifnonnullN hx hb hdg (hW H locs la hR hS hl)
    | some q =>
      simp [zgo] at hs
      subst hs
      exact lv_ifnonnull hx hb hdg ht (hW H locs la hR hS hl)
  · cases hs
theorem zs_tab (hx : p.tables.exec = Jvm.exec) (hb : c.code = cc) {d lo hi : Int} {offs : Array Int} {len : Nat} (hdg : decode cc pc = .ok (.tableswitch d lo hi offs, len)) (ht : (pc : Int) + d = (ztg pc d : Int)) (ht2 : ∀ off ∈ offs, (pc : Int) + off = (ztg pc off : Int)) (hs : ztab d lo hi offs pc ls st h = some (.inr y))
    (hW : zWA p l e R s m args below meth c Q b B L xs dC dI cA n0 u0 nL y) : zWA p l e R s m args below meth c Q b B L xs dC dI cA n0 u0 nL (pc, ls, st, h) := by
  unfold ztab at hs
  split at hs
  · rename_i v r
    intro H locs la hR hS hl
    show W _ _ _ _ _ _ _ _ _ _ _ _ _ _ _ (F0 m pc la (.int v :: r.map (ztr b B)))
    split at hs
    · rename_i hv
      simp only [zgo, Option.some.injEq, Sum.inr.injEq] at hs
      subst hs
      exact lv_tableOut hx hb hdg hv ht (hW H locs la hR hS hl)
    · rename_i hv
      cases ho : offs[(v.toInt - lo).toNat]? with
      | none => rw [ho] at hs; cases hs
      | some off =>
        rw [ho] at hs
        simp only [Option.bind_some, zgo, Option.some.injEq, Sum.inr.injEq] at hs
        subst hs
        exact lv_tableIn hx hb hdg (fun q => hv (Or.inl q)) (fun q => hv (Or.inr q)) ho (ht2 off (Array.mem_of_getElem? ho)) (hW H locs la hR hS hl)
  · cases hs
theorem zs_look (hx : p.tables.exec = Jvm.exec) (hb : c.code = cc) {d : Int} {ps : Array (Int × Int)} {len : Nat} (hdg : decode cc pc = .ok (.lookupswitch d ps, len)) (hp : (ps.toList.zip (ps.toList.drop 1)).all (fun (a, next) => a.1 < next.1) = true) (ht : ∀ z : Int, (pc : Int) + Op.lookupswitch.offset ps.toList d z = (ztg pc (Op.lookupswitch.offset ps.toList d z) : Int)) (hs : zlook d ps pc ls st h = some (.inr y))
    (hW : zWA p l e R s m args below meth c Q b B L xs dC dI cA n0 u0 nL y) : zWA p l e R s m args below meth c Q b B L xs dC dI cA n0 u0 nL (pc, ls, st, h) := by
  unfold zlook at hs
  split at hs
  · rename_i v r
    simp only [zgo, Option.some.injEq, Sum.inr.injEq] at hs
    subst hs
    intro H locs la hR hS hl
    exact lv_lookup hx hb hdg hp rfl (ht _) (hW H locs la hR hS hl)
  · cases hs
end ZOPS
end
section
/-! steps that read and write locals and cells -/
theorem zfind_mem : ∀ {tab : List (Nat × Nat × Nat × String × String)} {t k : Nat}, zfind tab t = some k → ∃ q ∈ tab, q.1 = t ∧ q.2.1 = k
  | [], t, k, h => by simp [zfind] at h
  | q :: l, t, k, h => by
    unfold zfind at h
    split at h
    · rename_i hq
      exact ⟨q, List.mem_cons_self, hq, Option.some.inj h⟩
    · obtain ⟨r, h1, h2⟩ := zfind_mem h
      exact ⟨r, List.mem_cons_of_mem _ h1, h2⟩
theorem zS_self {A : Nat → Prop} {H0 H : Heap} {locs : List Loc} (h : va_S A H0 H locs) : va_S A H H locs := ⟨Nat.le_refl _, fun _ _ _ => rfl, h.2.2⟩
theorem zS_trans {A : Nat → Prop} {H0 H H1 : Heap} {locs locs1 : List Loc} (h : va_S A H0 H locs) (h2 : va_S A H H1 locs1) : va_S A H0 H1 locs1 :=
  ⟨Nat.le_trans h.1 h2.1, fun q hq ha => (h2.2.1 q (Nat.lt_of_lt_of_le hq h.1) ha).trans (h.2.1 q hq ha), h2.2.2⟩
theorem zix_some {i : Int32} {n j : Nat} (h : zix i n = some j) : vp_in i n ∧ i.toNatClampNeg = j := by
  unfold zix at h
  split at h
  · cases h
  · rename_i q
    exact ⟨q, Option.some.inj h⟩
/-- a field's words -/
def zFo (own : String) (i t k : Nat) : Prop := t < 12 ∧ k < zNF t ∧ ∃ ref, Cond.fieldLink own i ref (zF t k).2.1 (zF t k).2.2.1 ∈ zGood ∧ (ref = (zF t k).1 ∨ Cond.sameField ref (zF t k).1 (zF t k).2.1 (zF t k).2.2.1 ∈ zGood)
theorem zfv_get {b B : Nat} {h : zH} {a N k : Nat} (hk : k < N) : ((List.range N).map (zfv b B h a))[k]? = some (zfv b B h a k) := by
  rw [List.getElem?_map, List.getElem?_range hk]
  rfl
theorem zcell_obj {b B : Nat} {cA : Nat → ClassId} {h : zH} {a : Nat} (ht : (zk h a).1 < 12) : zcell b B cA h a = .inr ((zk h a).1, (List.range (zNF (zk h a).1)).map (zfv b B h a)) := by
  unfold zcell
  rw [if_pos ht]
theorem zcell_ints {b B : Nat} {cA : Nat → ClassId} {h : zH} {a : Nat} (ht : (zk h a).1 = 12) : zcell b B cA h a = .inl (cA 0, (zk h a).2, .inl (zi h a)) := by
  unfold zcell
  rw [if_neg (by omega), if_pos ht]
theorem zcell_refs {b B : Nat} {cA : Nat → ClassId} {h : zH} {a : Nat} (ht : 12 < (zk h a).1) : zcell b B cA h a = .inl (cA ((zk h a).1 - 12), (zk h a).2, .inr (.inr (.inr (.inr (fun j => (zr h a j).map (zadr b B)))))) := by
  unfold zcell
  rw [if_neg (by omega), if_neg (by omega)]
section ZHOPS
variable {p : Program} {l : Launch} {e : Env} {R : Room} {s : State} {m : MethodId} {args : Array Value} {below : List Frame} {meth : Method} {c : Code} {Q : State → Prop} {cc : ByteArray} {own nm : String} {nL b B L n0 u0 : Nat} {xs : Nat → Int32} {dC : Nat → ClassId} {dI : Nat → Nat → Nat} {cA : Nat → ClassId}
variable {pc : Nat} {ls : zL} {st : List zV} {h : zH} {y : zS}
theorem zsize {H : Heap} {locs : List Loc} {ce sl : Nat} {g : JFrame} (k : H.size ≤ s.heap.size + ce → W p l e R s m args below meth c H locs ce sl Q g) : W p l e R s m args below meth c H locs ce sl Q g :=
  fun T hT X => k (by rw [← hT]; exact X.same.2.2.1) T hT X
theorem zs_load {w k i : Nat} (hs : zload w k i pc ls st h = some (.inr y))
    (h0 : w = 0 → ∀ (v : Int32) (H : Heap) (locs : List Loc) (la : Array Slot) (ce sl : Nat) (r : List Value), la[i]? = some (.val (.int v)) → W p l e R s m args below meth c H locs ce sl Q (F0 m (pc + k) la (.int v :: r)) → W p l e R s m args below meth c H locs ce sl Q (F0 m pc la r))
    (h1 : w = 1 → ∀ (v : Int64) (H : Heap) (locs : List Loc) (la : Array Slot) (ce sl : Nat) (r : List Value), la[i]? = some (.val (.long v)) → W p l e R s m args below meth c H locs ce sl Q (F0 m (pc + k) la (.long v :: r)) → W p l e R s m args below meth c H locs ce sl Q (F0 m pc la r))
    (h2 : w = 2 → ∀ (v : Option Nat) (H : Heap) (locs : List Loc) (la : Array Slot) (ce sl : Nat) (r : List Value), la[i]? = some (.val (va_rf v)) → W p l e R s m args below meth c H locs ce sl Q (F0 m (pc + k) la (va_rf v :: r)) → W p l e R s m args below meth c H locs ce sl Q (F0 m pc la r))
    (hW : zWA p l e R s m args below meth c Q b B L xs dC dI cA n0 u0 nL y) : zWA p l e R s m args below meth c Q b B L xs dC dI cA n0 u0 nL (pc, ls, st, h) := by
  unfold zload at hs
  split at hs
  · rename_i v hv
    simp only [zpush, Option.some.injEq, Sum.inr.injEq] at hs
    subst hs
    intro H locs la hR hS hl
    exact h0 rfl v _ _ _ _ _ _ (hl.2.2.2 i _ (zld_iff.mp hv)) (hW H locs la hR hS hl)
  · rename_i v hv
    simp only [zpush, Option.some.injEq, Sum.inr.injEq] at hs
    subst hs
    intro H locs la hR hS hl
    exact h1 rfl v _ _ _ _ _ _ (hl.2.2.2 i _ (zld_iff.mp hv)) (hW H locs la hR hS hl)
  · rename_i v hv
    simp only [zpush, Option.some.injEq, Sum.inr.injEq] at hs
    subst hs
    intro H locs la hR hS hl
    exact h2 rfl (v.map (zadr b B)) _ _ _ _ _ _ (hl.2.2.2 i _ (zld_iff.mp hv)) (hW H locs la hR hS hl)
  · cases hs
theorem zs_store {w k i : Nat} (hs : zstore w k i pc ls st h = some (.inr y))
    (h0 : w = 0 → ∀ (v : Int32) (H : Heap) (locs : List Loc) (la : Array Slot) (ce sl : Nat) (r : List Value) (lv : List (Nat × Value)), lv_has la nL lv → i < nL → (∀ la', lv_has la' nL ((i, Value.int v) :: lv.filter (fun q => !(q.1 == i) && !(q.1 + 1 == i && q.2.category == 2))) → W p l e R s m args below meth c H locs ce sl Q (F0 m (pc + k) la' r)) → W p l e R s m args below meth c H locs ce sl Q (F0 m pc la (.int v :: r)))
    (h1 : w = 1 → ∀ (v : Int64) (H : Heap) (locs : List Loc) (la : Array Slot) (ce sl : Nat) (r : List Value) (lv : List (Nat × Value)), lv_has la nL lv → i + 1 < nL → (∀ la', lv_has la' nL ((i, Value.long v) :: lv.filter (fun q => !(q.1 == i) && (!(q.1 == i + 1) && !(q.1 + 1 == i && q.2.category == 2)))) → W p l e R s m args below meth c H locs ce sl Q (F0 m (pc + k) la' r)) → W p l e R s m args below meth c H locs ce sl Q (F0 m pc la (.long v :: r)))
    (h2 : w = 2 → ∀ (v : Option Nat) (H : Heap) (locs : List Loc) (la : Array Slot) (ce sl : Nat) (r : List Value) (lv : List (Nat × Value)), lv_has la nL lv → i < nL → (∀ la', lv_has la' nL ((i, va_rf v) :: lv.filter (fun q => !(q.1 == i) && !(q.1 + 1 == i && q.2.category == 2))) → W p l e R s m args below meth c H locs ce sl Q (F0 m (pc + k) la' r)) → W p l e R s m args below meth c H locs ce sl Q (F0 m pc la (va_rf v :: r)))
    (hW : zWA p l e R s m args below meth c Q b B L xs dC dI cA n0 u0 nL y) : zWA p l e R s m args below meth c Q b B L xs dC dI cA n0 u0 nL (pc, ls, st, h) := by
  unfold zstore at hs
  split at hs
  · rename_i v r
    split at hs
    · rename_i hi
      simp only [zgo, Option.some.injEq, Sum.inr.injEq] at hs
      subst hs
      intro H locs la hR hS hl
      have hi : i < nL := by rw [← hl.2.2.1]; exact hi
      exact h0 rfl v _ _ _ _ _ _ _ hl.has hi (fun la' h' => hW H locs la' hR hS (zLV.st1 (v := .inl v) hl.2.2.1 hi h'))
    · cases hs
  · rename_i v r
    split at hs
    · rename_i hi
      simp only [zgo, Option.some.injEq, Sum.inr.injEq] at hs
      subst hs
      intro H locs la hR hS hl
      have hi : i + 1 < nL := by rw [← hl.2.2.1]; exact hi
      exact h1 rfl v _ _ _ _ _ _ _ hl.has hi (fun la' h' => hW H locs la' hR hS (zLV.st2 (v := .inr (.inl v)) hl.2.2.1 hi h'))
    · cases hs
  · rename_i v r
    split at hs
    · rename_i hi
      simp only [zgo, Option.some.injEq, Sum.inr.injEq] at hs
      subst hs
      intro H locs la hR hS hl
      have hi : i < nL := by rw [← hl.2.2.1]; exact hi
      exact h2 rfl (v.map (zadr b B)) _ _ _ _ _ _ _ hl.has hi (fun la' h' => hW H locs la' hR hS (zLV.st1 (v := .inr (.inr v)) hl.2.2.1 hi h'))
    · cases hs
  · cases hs
theorem zs_inc (hx : p.tables.exec = Jvm.exec) (hb : c.code = cc) {i : Nat} {n : Int} (hdg : decode cc pc = .ok (.iinc i n, 3)) (hs : zinc i n pc ls st h = some (.inr y))
    (hW : zWA p l e R s m args below meth c Q b B L xs dC dI cA n0 u0 nL y) : zWA p l e R s m args below meth c Q b B L xs dC dI cA n0 u0 nL (pc, ls, st, h) := by
  unfold zinc at hs
  split at hs
  · rename_i v hv
    split at hs
    · rename_i hi
      simp only [zgo, Option.some.injEq, Sum.inr.injEq] at hs
      subst hs
      intro H locs la hR hS hl
      have hi : i < nL := by rw [← hl.2.2.1]; exact hi
      obtain ⟨k, hk⟩ := List.getElem?_of_mem (zas_mem (b := b) (B := B) (zld_iff.mp hv))
      exact lv_iinc hx hb hdg hl.has hk rfl hi rfl (fun la' h' => hW H locs la' hR hS (zLV.st1 (v := .inl (v + Int32.ofInt n)) hl.2.2.1 hi h'))
    · cases hs
  · cases hs
theorem zs_get (C : zCx p s m args meth c cc own nm nL b B L xs dC dI cA) {o : zO} {idx : Nat} (hdg : decode cc pc = .ok (.getfield idx, 3)) (ho : ∀ q ∈ o.2.2.2, zFo own idx q.1 q.2.1 ∧ (o.2.2.1 = 2 ↔ zisI (zTy q.1 q.2.1) = false)) (hs : zget o pc ls st h = some (.inr y))
    (hW : zWA p l e R s m args below meth c Q b B L xs dC dI cA n0 u0 nL y) : zWA p l e R s m args below meth c Q b B L xs dC dI cA n0 u0 nL (pc, ls, st, h) := by
  obtain ⟨hx, hb, hml, hown, hts, hK, -⟩ := C
  unfold zget at hs
  split at hs
  · rename_i a r
    cases hf : zfind o.2.2.2 (zk h a).1 with
    | none => rw [hf] at hs; cases hs
    | some k =>
      rw [hf, Option.bind_some] at hs
      obtain ⟨q, hq, e1, e2⟩ := zfind_mem hf
      obtain ⟨⟨ht, hk, ref, hl1, hl2⟩, hi⟩ := ho q hq
      rw [e1] at ht hk hl1 hl2 hi
      rw [e2] at hk hl1 hl2 hi
      intro H locs la hR hS hl
      have hR : zRep b B L xs dC dI cA h H := hR
      obtain ⟨a1, a2⟩ := hR.in (a := a) (by omega)
      have he := zws_get b B cA h a1 a2
      rw [zcell_obj ht] at he
      refine va_get (D := (dC, dI)) (ci := (zk h a).1) (v := zfv b B h a k) (C := zC (zk h a).1) (T := zF (zk h a).1) (N := zNF (zk h a).1) hx hb hts (zin_at _ ht) hown hK.1 hR.1 (a - 1) he (zcl_at _ ht) k hk (hts _ hl1) ?_ (zfv_get hk) hdg ?_
      · rcases hl2 with rfl | hl2
        · exact fun _ h9 => h9
        · exact u_same (hts _ hl2)
      · unfold zfv
        split at hs
        · rename_i h2
          simp only [zgo, Option.some.injEq, Sum.inr.injEq] at hs
          subst hs
          rw [if_neg (by rw [hi.mp h2]; decide)]
          exact hW H locs la hR hS hl
        · rename_i h2
          simp only [zgo, Option.some.injEq, Sum.inr.injEq] at hs
          subst hs
          rw [if_pos (by cases hz : zisI (zTy (zk h a).1 k) with | true => rfl | false => exact absurd (hi.mpr hz) h2)]
          exact hW H locs la hR hS hl
  · cases hs
/-- a store into a field, whatever its value -/
theorem zput_row (C : zCx p s m args meth c cc own nm nL b B L xs dC dI cA) (hn0 : s.heap.size + 1 = B + n0) {idx t k a : Nat} (hdg : decode cc pc = .ok (.putfield idx, 3)) (hF : zFo own idx t k) (hfin : (zF t k).2.2.2 = false ∨ ((zF t k).2.2.2 = true ∧ nm = "<init>" ∧ (zF t k).1 = own)) {h' : zH} {v : Value} (ht : (zk h a).1 = t)
    (hn : narrow (zTy t k) v = v) (hfit : fits (zTy t k) v = true) (g1 : zn h' = zn h) (g2 : zu h' = zu h) (g3 : ∀ x, zk h' x = zk h x) (g4 : ∀ x, x ≠ a → zcell b B cA h' x = zcell b B cA h x) (g5 : zfv b B h' a k = v) (g6 : ∀ j, j ≠ k → zfv b B h' a j = zfv b B h a j) (g7 : ∀ j, zi h' 0 j = zi h 0 j) (hle : n0 ≤ zn h)
    {H : Heap} {locs : List Loc} {la : Array Slot} {r : List Value} (hR : zRep b B L xs dC dI cA h H) (hS : va_S (fun q => B ≤ q) s.heap H locs)
    (hW : ∀ (H1 : Heap) (locs1 : List Loc), zRep b B L xs dC dI cA h' H1 → va_S (fun q => B ≤ q) s.heap H1 locs1 → W p l e R s m args below meth c H1 locs1 (zn h' - n0) (zu h' - u0) Q (F0 m (pc + 3) la r)) : W p l e R s m args below meth c H locs (zn h - n0) (zu h - u0) Q (F0 m pc la (v :: .ref (zadr b B a) :: r)) := by
  obtain ⟨hx, hb, hml, hown, hts, hK, -, -, -, -, hnm⟩ := C
  obtain ⟨ht2, hk, ref, hl1, hl2⟩ := hF
  subst ht
  obtain ⟨a1, a2⟩ := hR.in (a := a) (by omega)
  have he := zws_get b B cA h a1 a2
  rw [zcell_obj ht2] at he
  have hsame : ∀ x, s.fieldFound? (zF (zk h a).1 k).1 (zF (zk h a).1 k).2.1 (zF (zk h a).1 k).2.2.1 = some x → s.fieldFound? ref (zF (zk h a).1 k).2.1 (zF (zk h a).1 k).2.2.1 = some x := by
    rcases hl2 with rfl | hl2
    · exact fun _ h9 => h9
    · exact u_same (hts _ hl2)
  have hset : ((List.range (zNF (zk h a).1)).map (zfv b B h a)).set k v = (List.range (zNF (zk h a).1)).map (zfv b B h' a) := by
    apply List.ext_getElem?
    intro j
    by_cases hj : j = k
    · subst hj
      rw [List.getElem?_set_self (by simpa using hk), zfv_get hk, g5]
    · rw [List.getElem?_set_ne (Ne.symm hj)]
      by_cases hj2 : j < zNF (zk h a).1
      · rw [zfv_get hj2, zfv_get hj2, g6 j hj]
      · rw [List.getElem?_eq_none (by simpa using hj2), List.getElem?_eq_none (by simpa using hj2)]
  have fin : ∀ (H1 : Heap) (locs1 : List Loc), va_P (dC, dI) vwCl ((zws b B cA h).set (a - 1) (zadr b B a, .inr ((zk h a).1, ((List.range (zNF (zk h a).1)).map (zfv b B h a)).set k v))) H1 → va_S (fun q => B ≤ q) H H1 locs1 → W p l e R s m args below meth c H1 locs1 (zn h - n0) (zu h - u0) Q (F0 m (pc + 3) la r) := by
    intro H1 locs1 hP1 hS1
    refine zsize fun hz => ?_
    rw [← g1, ← g2]
    have hz2 : H1.size = H.size := by
      have := hS1.1
      have := hR.2.1
      omega
    refine hW H1 locs1 (hR.put (a := a) (by omega) g1 g3 g4 g7 hz2 ?_) (zS_trans hS hS1)
    rw [hset] at hP1
    rw [zcell_obj (h := h') (by rw [g3]; exact ht2), g3]
    exact hP1
  rcases hfin with hfin | ⟨hfin, hni, hdecl⟩
  · exact va_put (D := (dC, dI)) (ci := (zk h a).1) (v := v) (ty := zTy (zk h a).1 k) (C := zC (zk h a).1) (T := zF (zk h a).1) (N := zNF (zk h a).1) hx hb hts (zin_at _ ht2) (zTy (zk h a).1) (zty_at _ ht2) (znm_at _ ht2) hown hK.1 hR.1 (zws_D b B cA h) (zS_self hS) (a - 1) he (zcl_at _ ht2) k hk (hts _ hl1) hsame hfin (zty_at _ ht2 k hk) hn hfit (by simpa using hk) hdg (fun H1 locs1 hP1 _ hS1 => fin H1 locs1 hP1 hS1)
  · exact va_putF (D := (dC, dI)) (ci := (zk h a).1) (v := v) (ty := zTy (zk h a).1 k) (C := zC (zk h a).1) (T := zF (zk h a).1) (N := zNF (zk h a).1) hx hb hts (zin_at _ ht2) (zTy (zk h a).1) (zty_at _ ht2) (znm_at _ ht2) hown hK.1 hR.1 (zws_D b B cA h) (zS_self hS) (a - 1) he (zcl_at _ ht2) k hk (hts _ hl1) hsame hfin (by rw [hnm]; exact hni) hdecl (zty_at _ ht2 k hk) hn hfit (by simpa using hk) hdg (fun H1 locs1 hP1 _ hS1 => fin H1 locs1 hP1 hS1)
theorem zs_put (C : zCx p s m args meth c cc own nm nL b B L xs dC dI cA) (hn0 : s.heap.size + 1 = B + n0) (hle : n0 ≤ zn h) {o : zO} {idx : Nat} (hdg : decode cc pc = .ok (.putfield idx, 3))
    (ho : ∀ q ∈ o.2.2.2, zFo own idx q.1 q.2.1 ∧ ((zF q.1 q.2.1).2.2.2 = false ∨ ((zF q.1 q.2.1).2.2.2 = true ∧ nm = "<init>" ∧ (zF q.1 q.2.1).1 = own)) ∧ (o.2.2.1 = 0 → zTy q.1 q.2.1 = .int) ∧ (o.2.2.1 = 1 → zTy q.1 q.2.1 = .boolean) ∧ (o.2.2.1 = 2 → (∃ C, zTy q.1 q.2.1 = .object C) ∨ ∃ t, zTy q.1 q.2.1 = .array t)) (hs : zput o pc ls st h = some (.inr y))
    (hW : zWA p l e R s m args below meth c Q b B L xs dC dI cA n0 u0 nL y) : zWA p l e R s m args below meth c Q b B L xs dC dI cA n0 u0 nL (pc, ls, st, h) := by
  unfold zput at hs
  split at hs
  · rename_i v a r
    cases hf : zfind o.2.2.2 (zk h a).1 with
    | none => rw [hf] at hs; cases hs
    | some k =>
      rw [hf, Option.bind_some] at hs
      obtain ⟨q, hq, e1, e2⟩ := zfind_mem hf
      obtain ⟨hF, hfin, f0, f1, -⟩ := ho q hq
      rw [e1, e2] at hF hfin f0 f1
      split at hs
      · rename_i hv
        simp only [zgo, Option.some.injEq, Sum.inr.injEq] at hs
        subst hs
        intro H locs la hR hS hl
        have hR : zRep b B L xs dC dI cA h H := hR
        have hI : zisI (zTy (zk h a).1 k) = true := by
          rcases hv with hv | ⟨hv, -⟩
          · rw [f0 hv]; rfl
          · rw [f1 hv]; rfl
        have ha : a ≠ 0 := by
          have := (hR.in (a := a) (by have := hF.1; omega)).1
          omega
        refine zput_row C hn0 (h' := zwI h a k v) (v := .int v) hdg hF hfin rfl ?_ ?_ rfl rfl (fun _ => rfl) ?_ ?_ ?_ ?_ hle hR hS (fun H1 locs1 hR1 hS1 => hW H1 locs1 la hR1 hS1 hl)
        · rcases hv with hv | ⟨hv, rfl | rfl⟩
          · rw [f0 hv]; rfl
          · rw [f1 hv]; decide
          · rw [f1 hv]; decide
        · rcases hv with hv | ⟨hv, rfl | rfl⟩
          · rw [f0 hv]; rfl
          · rw [f1 hv]; decide
          · rw [f1 hv]; decide
        · intro x hx
          have e : ∀ j, zi (zwI h a k v) x j = zi h x j := fun j => by rw [zi_wI, if_neg (fun z => hx z.1)]
          have e3 : zi (zwI h a k v) x = zi h x := funext e
          have e4 : zfv b B (zwI h a k v) x = zfv b B h x := funext fun j => by unfold zfv; rw [zk_wI, zr_wI, e]
          unfold zcell
          rw [zk_wI, e3, e4]
          rfl
        · unfold zfv
          rw [zk_wI, if_pos hI, zi_wI, if_pos ⟨rfl, rfl⟩]
        · intro j hj
          have e : zi (zwI h a k v) a j = zi h a j := by rw [zi_wI, if_neg (fun z => hj z.2)]
          unfold zfv
          rw [zk_wI, zr_wI, e]
        · intro j
          rw [zi_wI, if_neg (fun z => ha z.1.symm)]
      · cases hs
  · rename_i q0 a r
    cases hf : zfind o.2.2.2 (zk h a).1 with
    | none => rw [hf] at hs; cases hs
    | some k =>
      rw [hf, Option.bind_some] at hs
      obtain ⟨q, hq, e1, e2⟩ := zfind_mem hf
      obtain ⟨hF, hfin, -, -, f2⟩ := ho q hq
      rw [e1, e2] at hF hfin f2
      split at hs
      · rename_i hv
        simp only [zgo, Option.some.injEq, Sum.inr.injEq] at hs
        subst hs
        intro H locs la hR hS hl
        have hR : zRep b B L xs dC dI cA h H := hR
        have hI : zisI (zTy (zk h a).1 k) = false := by
          rcases f2 hv with ⟨C, h1⟩ | ⟨C, h1⟩ <;> rw [h1] <;> rfl
        refine zput_row C hn0 (h' := zwR h a k q0) (v := va_rf (q0.map (zadr b B))) hdg hF hfin rfl ?_ ?_ rfl rfl (fun _ => rfl) ?_ ?_ ?_ (fun _ => rfl) hle hR hS (fun H1 locs1 hR1 hS1 => hW H1 locs1 la hR1 hS1 hl)
        · rcases f2 hv with ⟨C, h1⟩ | ⟨C, h1⟩ <;> rw [h1] <;> cases q0 <;> rfl
        · rcases f2 hv with ⟨C, h1⟩ | ⟨C, h1⟩ <;> rw [h1] <;> cases q0 <;> rfl
        · intro x hx
          have e : ∀ j, zr (zwR h a k q0) x j = zr h x j := fun j => by rw [zr_wR, if_neg (fun z => hx z.1)]
          have e3 : (fun j => (zr (zwR h a k q0) x j).map (zadr b B)) = (fun j => (zr h x j).map (zadr b B)) := funext fun j => by rw [e]
          have e4 : zfv b B (zwR h a k q0) x = zfv b B h x := funext fun j => by unfold zfv; rw [zk_wR, zi_wR, e]
          unfold zcell
          rw [zk_wR, e3, e4]
          rfl
        · unfold zfv
          rw [zk_wR, if_neg (by rw [hI]; decide), zr_wR, if_pos ⟨rfl, rfl⟩]
        · intro j hj
          have e : zr (zwR h a k q0) a j = zr h a j := by rw [zr_wR, if_neg (fun z => hj z.2)]
          unfold zfv
          rw [zk_wR, zi_wR, e]
      · cases hs
  · cases hs
/-- arrays -/
theorem zs_ald (C : zCx p s m args meth c cc own nm nL b B L xs dC dI cA) (hdg : decode cc pc = .ok (.iaload, 1)) (hs : zald pc ls st h = some (.inr y))
    (hW : zWA p l e R s m args below meth c Q b B L xs dC dI cA n0 u0 nL y) : zWA p l e R s m args below meth c Q b B L xs dC dI cA n0 u0 nL (pc, ls, st, h) := by
  obtain ⟨hx, hb, hml, hown, hts, hK, hX, hbB, hBs, -⟩ := C
  unfold zald at hs
  split at hs
  · rename_i i a r
    split at hs
    · rename_i ht
      cases hj : zix i (zk h a).2 with
      | none => rw [hj] at hs; cases hs
      | some j =>
        rw [hj, Option.bind_some] at hs
        simp only [zgo, Option.some.injEq, Sum.inr.injEq] at hs
        subst hs
        obtain ⟨hin, hjj⟩ := zix_some hj
        intro H locs la hR hS hl
        have hR : zRep b B L xs dC dI cA h H := hR
        rcases ht with ht | ht
        · obtain ⟨a1, a2⟩ := hR.in (a := a) (by omega)
          have he := zws_get b B cA h a1 a2
          rw [zcell_ints ht] at he
          refine va_iald (D := (dC, dI)) hx hb hK.1 hR.1 (a - 1) 0 he rfl hin hdg ?_
          rw [hjj]
          exact hW H locs la hR hS hl
        · have a0 : a = 0 := by
            rcases Nat.eq_zero_or_pos a with q | q
            · exact q
            · rcases Nat.lt_or_ge a (zn h) with z | z
              · have := hR.2.2.2.2.1 a q z
                omega
              · have := hR.2.2.2.1 a z
                omega
          subst a0
          have hk := hR.2.2.2.2.2.1
          rw [hk] at hin
          have hlt : j < L := by
            rw [← hjj]
            exact Nat.not_le.mp fun q => hin (Or.inr q)
          have K := hW H locs la hR hS hl
          refine va_sld (A := fun q => B ≤ q) (b := b) (L := L) hx hb hX (Nat.lt_of_lt_of_le hbB hBs) (Nat.not_le.mpr hbB) hS hin hdg ?_
          rw [hjj, ← hR.2.2.2.2.2.2 j hlt]
          exact K
    · cases hs
  · cases hs
theorem zs_alen (C : zCx p s m args meth c cc own nm nL b B L xs dC dI cA) (hdg : decode cc pc = .ok (.arraylength, 1)) (hs : zalen pc ls st h = some (.inr y))
    (hW : zWA p l e R s m args below meth c Q b B L xs dC dI cA n0 u0 nL y) : zWA p l e R s m args below meth c Q b B L xs dC dI cA n0 u0 nL (pc, ls, st, h) := by
  obtain ⟨hx, hb, hml, hown, hts, hK, hX, hbB, hBs, -⟩ := C
  unfold zalen at hs
  split at hs
  · rename_i a r
    split at hs
    · rename_i ht
      simp only [zgo, Option.some.injEq, Sum.inr.injEq] at hs
      subst hs
      intro H locs la hR hS hl
      have hR : zRep b B L xs dC dI cA h H := hR
      rcases Nat.lt_or_ge (zk h a).1 16 with h16 | h16
      · obtain ⟨a1, a2⟩ := hR.in (a := a) h16
        have he := zws_get b B cA h a1 a2
        rcases Nat.lt_or_ge 12 (zk h a).1 with q | q
        · rw [zcell_refs q] at he
          rcases (show (zk h a).1 = 13 ∨ (zk h a).1 = 14 ∨ (zk h a).1 = 15 by omega) with z | z | z
          · rw [z] at he
            exact va_alen (D := (dC, dI)) hx hb hK.1 hR.1 (a - 1) 1 he rfl rfl hdg (hW H locs la hR hS hl)
          · rw [z] at he
            exact va_alen (D := (dC, dI)) hx hb hK.1 hR.1 (a - 1) 2 he rfl rfl hdg (hW H locs la hR hS hl)
          · rw [z] at he
            exact va_alen (D := (dC, dI)) hx hb hK.1 hR.1 (a - 1) 3 he rfl rfl hdg (hW H locs la hR hS hl)
        · rw [zcell_ints (by omega)] at he
          exact va_alen (D := (dC, dI)) hx hb hK.1 hR.1 (a - 1) 0 he rfl rfl hdg (hW H locs la hR hS hl)
      · have a0 : a = 0 := by
          rcases Nat.eq_zero_or_pos a with q | q
          · exact q
          · rcases Nat.lt_or_ge a (zn h) with z | z
            · have := hR.2.2.2.2.1 a q z
              omega
            · have := hR.2.2.2.1 a z
              omega
        subst a0
        have K := hW H locs la hR hS hl
        have hk := hR.2.2.2.2.2.1
        dsimp only at K
        rw [hk] at K
        exact va_slen (A := fun q => B ≤ q) (b := b) (L := L) hx hb hX (Nat.lt_of_lt_of_le hbB hBs) (Nat.not_le.mpr hbB) hS hdg K
    · cases hs
  · cases hs
theorem zs_ast (C : zCx p s m args meth c cc own nm nL b B L xs dC dI cA) (hn0 : s.heap.size + 1 = B + n0) (hle : n0 ≤ zn h) (hdg : decode cc pc = .ok (.iastore, 1)) (hs : zast pc ls st h = some (.inr y))
    (hW : zWA p l e R s m args below meth c Q b B L xs dC dI cA n0 u0 nL y) : zWA p l e R s m args below meth c Q b B L xs dC dI cA n0 u0 nL (pc, ls, st, h) := by
  obtain ⟨hx, hb, hml, hown, hts, hK, -⟩ := C
  unfold zast at hs
  split at hs
  · rename_i v i a r
    split at hs
    · rename_i ht
      cases hj : zix i (zk h a).2 with
      | none => rw [hj] at hs; cases hs
      | some j =>
        rw [hj, Option.bind_some] at hs
        simp only [zgo, Option.some.injEq, Sum.inr.injEq] at hs
        subst hs
        obtain ⟨hin, hjj⟩ := zix_some hj
        intro H locs la hR hS hl
        have hR : zRep b B L xs dC dI cA h H := hR
        obtain ⟨a1, a2⟩ := hR.in (a := a) (by omega)
        have he := zws_get b B cA h a1 a2
        rw [zcell_ints ht] at he
        refine va_iast (D := (dC, dI)) hx hb hK.1 hR.1 (zws_D b B cA h) (zS_self hS) (a - 1) 0 he rfl hin hdg (fun H1 locs1 hP1 _ hS1 => zsize fun hz => ?_)
        have hz : H1.size ≤ s.heap.size + (zn h - n0) := hz
        have hz2 : H1.size = H.size := by
          have := hS1.1
          have := hR.2.1
          omega
        refine hW H1 locs1 la (hR.put (a := a) (h' := zwI h a j v) (by omega) rfl (fun _ => rfl) ?_ ?_ hz2 ?_) (zS_trans hS hS1) hl
        · intro x hx
          have e : ∀ j', zi (zwI h a j v) x j' = zi h x j' := fun j' => by rw [zi_wI, if_neg (fun z => hx z.1)]
          have e3 : zi (zwI h a j v) x = zi h x := funext e
          have e4 : zfv b B (zwI h a j v) x = zfv b B h x := funext fun j' => by unfold zfv; rw [zk_wI, zr_wI, e]
          unfold zcell
          rw [zk_wI, e3, e4]
          rfl
        · intro j'
          rw [zi_wI, if_neg (fun z => by omega)]
        · rw [zcell_ints (h := zwI h a j v) ht]
          have e5 : zi (zwI h a j v) a = upd (zi h a) i.toNatClampNeg v := by
            funext j'
            rw [zi_wI, hjj]
            unfold upd
            by_cases q : j' = j
            · rw [if_pos ⟨rfl, q⟩, if_pos q]
            · rw [if_neg (fun z => q z.2), if_neg q]
          rw [e5]
          exact hP1
    · cases hs
  · cases hs
theorem zs_aald (C : zCx p s m args meth c cc own nm nL b B L xs dC dI cA) (hdg : decode cc pc = .ok (.aaload, 1)) (hs : zaald pc ls st h = some (.inr y))
    (hW : zWA p l e R s m args below meth c Q b B L xs dC dI cA n0 u0 nL y) : zWA p l e R s m args below meth c Q b B L xs dC dI cA n0 u0 nL (pc, ls, st, h) := by
  obtain ⟨hx, hb, hml, hown, hts, hK, -⟩ := C
  unfold zaald at hs
  split at hs
  · rename_i i a r
    split at hs
    · rename_i ht
      cases hj : zix i (zk h a).2 with
      | none => rw [hj] at hs; cases hs
      | some j =>
        rw [hj, Option.bind_some] at hs
        simp only [zgo, Option.some.injEq, Sum.inr.injEq] at hs
        subst hs
        obtain ⟨hin, hjj⟩ := zix_some hj
        intro H locs la hR hS hl
        have hR : zRep b B L xs dC dI cA h H := hR
        obtain ⟨a1, a2⟩ := hR.in (a := a) (by omega)
        have he := zws_get b B cA h a1 a2
        rw [zcell_refs (by omega)] at he
        have K := hW H locs la hR hS hl
        rw [← hjj] at K
        rcases (show (zk h a).1 = 13 ∨ (zk h a).1 = 14 ∨ (zk h a).1 = 15 by omega) with z | z | z
        · rw [z] at he
          exact va_aldq (D := (dC, dI)) hx hb hK.1 hR.1 (a - 1) 1 he rfl hin hdg K
        · rw [z] at he
          exact va_aldq (D := (dC, dI)) hx hb hK.1 hR.1 (a - 1) 2 he rfl hin hdg K
        · rw [z] at he
          exact va_aldq (D := (dC, dI)) hx hb hK.1 hR.1 (a - 1) 3 he rfl hin hdg K
    · cases hs
  · cases hs
end ZHOPS
end
section
/-! steps that make cells; arrays of references; instanceof; arraycopy -/
theorem ztys_at (cA : Nat → ClassId) : ∀ t, 13 ≤ t → t ≤ 15 → (ztys cA)[t - 12]? = some (cA (t - 12), .object (zC (if t = 13 then 8 else if t = 14 then 4 else 7))) := by
  intro t h1 h2
  rcases (show t = 13 ∨ t = 14 ∨ t = 15 by omega) with rfl | rfl | rfl <;> rfl
theorem zcast_in1 : Cond.castable RX0 RX8 ∈ lw_tbl := by decide +kernel
theorem zcast_in2 : Cond.castable RX5 RX8 ∈ lw_tbl := by decide +kernel
theorem zcast_in3 : Cond.castable RX5 RX0 ∈ lw_tbl := by decide +kernel
def zokT (ty : FieldType) : Bool := match ty with
  | .int => true
  | .boolean => true
  | .object _ => true
  | .array _ => true
  | _ => false
theorem zokT_at : ∀ t, t < 12 → ∀ k, k < zNF t → zokT (zTy t k) = true := zcases (by decide) (by decide) (by decide) (by decide) (by decide) (by decide) (by decide) (by decide) (by decide) (by decide) (by decide) (by decide)
section ZMOPS
variable {p : Program} {l : Launch} {e : Env} {R : Room} {s : State} {m : MethodId} {args : Array Value} {below : List Frame} {meth : Method} {c : Code} {Q : State → Prop} {cc : ByteArray} {own nm : String} {nL b B L n0 u0 : Nat} {xs : Nat → Int32} {dC : Nat → ClassId} {dI : Nat → Nat → Nat} {cA : Nat → ClassId}
variable {pc : Nat} {ls : zL} {st : List zV} {h : zH} {y : zS}
/-- the class of an object is the class that its array's component names, or can be cast to it -/
theorem zasg (hK : zK dC dI cA s) {t q : Nat} (h1 : 13 ≤ t) (h2 : t ≤ 15) (hf : zfit t q = true) : q < 12 ∧ ∀ comp, s.vm.findClass (zC (if t = 13 then 8 else if t = 14 then 4 else 7)) = some comp → s.vm.assignable (dC q) comp = true := by
  have hat : ∀ k, k < 12 → ClassAt s (zC k) (dC k) := fun k hk => (hK.1.1 k _ (zcl_at k hk)).2
  have hself : ∀ k, k < 12 → ∀ comp, s.vm.findClass (zC k) = some comp → s.vm.assignable (dC k) comp = true := by
    intro k hk comp hc
    have h3 := hat k hk
    cases h3.1.symm.trans hc
    exact va_assign h3
  rcases (show t = 13 ∨ t = 14 ∨ t = 15 by omega) with rfl | rfl | rfl
  · have : q = 8 ∨ q = 0 ∨ q = 5 := by
      simp [zfit] at hf
      omega
    rcases this with rfl | rfl | rfl
    · exact ⟨by decide, hself 8 (by decide)⟩
    · exact ⟨by decide, fun comp hc => vb_asgC (hK.2.1 _ zcast_in1 rfl) comp (dC 0) hc (hat 0 (by decide)).1⟩
    · exact ⟨by decide, fun comp hc => vb_asgC (hK.2.1 _ zcast_in2 rfl) comp (dC 5) hc (hat 5 (by decide)).1⟩
  · have : q = 4 := by simpa [zfit] using hf
    subst this
    exact ⟨by decide, hself 4 (by decide)⟩
  · have : q = 7 := by simpa [zfit] using hf
    subst this
    exact ⟨by decide, hself 7 (by decide)⟩
theorem zfit_in {t q : Nat} (hf : zfit t q = true) : 13 ≤ t ∧ t ≤ 15 := by
  simp [zfit] at hf
  omega
theorem zs_aast (C : zCx p s m args meth c cc own nm nL b B L xs dC dI cA) (hn0 : s.heap.size + 1 = B + n0) (hle : n0 ≤ zn h) (hdg : decode cc pc = .ok (.aastore, 1)) (hs : zaast pc ls st h = some (.inr y))
    (hW : zWA p l e R s m args below meth c Q b B L xs dC dI cA n0 u0 nL y) : zWA p l e R s m args below meth c Q b B L xs dC dI cA n0 u0 nL (pc, ls, st, h) := by
  obtain ⟨hx, hb, hml, hown, hts, hK, -⟩ := C
  unfold zaast at hs
  split at hs
  · rename_i q i a r
    split at hs
    · rename_i ht
      cases hj : zix i (zk h a).2 with
      | none => rw [hj] at hs; cases hs
      | some j =>
        rw [hj, Option.bind_some] at hs
        simp only [zgo, Option.some.injEq, Sum.inr.injEq] at hs
        subst hs
        obtain ⟨hin, hjj⟩ := zix_some hj
        obtain ⟨t1, t2⟩ := zfit_in ht
        obtain ⟨hq, hasg⟩ := zasg hK t1 t2 ht
        intro H locs la hR hS hl
        have hR : zRep b B L xs dC dI cA h H := hR
        obtain ⟨a1, a2⟩ := hR.in (a := a) (by omega)
        obtain ⟨q1, q2⟩ := hR.in (a := q) (by omega)
        have he := zws_get b B cA h a1 a2
        have hv := zws_get b B cA h q1 q2
        rw [zcell_refs (by omega)] at he
        rw [zcell_obj hq] at hv
        have hlt : i.toNatClampNeg < (zk h a).2 := Nat.not_le.mp fun z => hin (Or.inr z)
        have h0 : ¬ i < 0 := fun z => hin (Or.inl z)
        obtain ⟨r', hr', cellV, g1, g2, g3, -⟩ := hR.1 _ _ hv
        obtain ⟨kA, comp, k1, k2, k3, -⟩ := (hK.1.2 _ _ (ztys_at cA _ t1 t2)).2
        have hcell := hR.1 _ _ he
        have hcl : ∃ kC, s.vm.classes[dC (zk h q).1]? = some kC := by
          obtain ⟨kC, hkC, -⟩ := (hK.1.1 _ _ (zcl_at _ hq)).2.2
          exact ⟨kC, hkC⟩
        obtain ⟨kC, hkC⟩ := hcl
        obtain ⟨kcomp, hkcomp, -⟩ := Vm.findClass_spec k3
        refine W.aast hx hb hcell (fun z h => by cases h) (fun h => by cases h) k1 k2 rfl hkcomp ⟨h0, by show _ < (arrV _ _ _).slots.size; rw [arrV_size]; exact hlt⟩ g1 (fun z h => by rw [g3] at h; cases h) (by rw [g2]; exact hkC) (by rw [g2]; exact hasg comp k3) rfl rfl hdg fun H1 e1 z1 oq => ?_
        have hS1 : va_S (fun q => B ≤ q) s.heap H1 (locs ++ [⟨zadr b B a, i.toNatClampNeg⟩]) := hS.put z1 oq ((zws_D b B cA h).2 _ _ he)
        have hPset := hR.1.set (zws_D b B cA h) he (e := zcell b B cA (zwR h a j (some q)) a) (H1 := H1) ?_ oq
        · refine hW H1 _ la (hR.put (a := a) (h' := zwR h a j (some q)) (by omega) rfl (fun _ => rfl) ?_ (fun _ => rfl) z1 hPset) hS1 hl
          intro x hx
          have e : ∀ j', zr (zwR h a j (some q)) x j' = zr h x j' := fun j' => by rw [zr_wR, if_neg (fun z => hx z.1)]
          have e3 : (fun j' => (zr (zwR h a j (some q)) x j').map (zadr b B)) = (fun j' => (zr h x j').map (zadr b B)) := funext fun j' => by rw [e]
          have e4 : zfv b B (zwR h a j (some q)) x = zfv b B h x := funext fun j' => by unfold zfv; rw [zk_wR, zi_wR, e]
          unfold zcell
          rw [zk_wR, e3, e4]
          rfl
        · rw [zcell_refs (h := zwR h a j (some q)) (by rw [zk_wR]; omega)]
          show H1[_]? = some (vp_cell _ _)
          rw [e1, vp_cell_q, vp_cell_q, arrV_store, zk_wR]
          congr 2
          funext z
          rw [zr_wR, hjj]
          unfold updV
          by_cases hz : z = j
          · rw [if_pos hz, if_pos ⟨rfl, hz⟩]
            rfl
          · rw [if_neg hz, if_neg (fun w => hz w.2)]
    · cases hs
  · cases hs
/-- a new cell behind all others -/
theorem zRep.push {H H1 : Heap} (r : zRep b B L xs dC dI cA h H) {t n N : Nat} (ht : t < 16) (hz : H1.size = H.size + 1) (ho : ∀ q, q < H.size → H1[q]? = H[q]?) (hc : va_at (dC, dI) vwCl (H.size, zcell b B cA (zN h t n N) (zn h)) H1) : zRep b B L xs dC dI cA (zN h t n N) H1 := by
  obtain ⟨r1, r2, r3, r4, r5, r6, r7⟩ := r
  have hcell : ∀ x, x < zn h → zcell b B cA (zN h t n N) x = zcell b B cA h x := by
    intro x hx
    have e1 : zk (zN h t n N) x = zk h x := by rw [zk_N, if_neg (by omega)]
    have e2 : zi (zN h t n N) x = zi h x := funext fun j => by rw [zi_N, if_neg (by omega)]
    have e3 : ∀ j, zr (zN h t n N) x j = zr h x j := fun j => by rw [zr_N, if_neg (by omega)]
    have e4 : zfv b B (zN h t n N) x = zfv b B h x := funext fun j => by unfold zfv; rw [e1, e2, e3]
    have e5 : (fun j => (zr (zN h t n N) x j).map (zadr b B)) = (fun j => (zr h x j).map (zadr b B)) := funext fun j => by rw [e3]
    unfold zcell
    rw [e1, e2, e4, e5]
  have hws : zws b B cA (zN h t n N) = zws b B cA h ++ [(H.size, zcell b B cA (zN h t n N) (zn h))] := by
    unfold zws
    rw [zn_N, show zn h + 1 - 1 = (zn h - 1) + 1 by omega, List.range_succ, List.map_append]
    congr 1
    · apply List.map_congr_left
      intro k hk
      have := List.mem_range.mp hk
      rw [hcell (k + 1) (by omega)]
    · simp only [List.map_cons, List.map_nil]
      rw [show B + (zn h - 1) = H.size by omega, show zn h - 1 + 1 = zn h by omega]
  refine ⟨?_, by rw [zn_N]; omega, by rw [zn_N]; omega, fun a ha => ?_, fun a ha ha2 => ?_, by rw [zk_N, if_neg (by omega)]; exact r6, fun j hj => by rw [zi_N, if_neg (by omega)]; exact r7 j hj⟩
  · rw [hws]
    refine va_P.app (r1.kept fun k x hx => ho x.1 ((r1 k x hx).lt)) (fun k x hx => ?_)
    have hz : k < 1 := (List.getElem?_eq_some_iff.mp hx).1
    rw [show k = 0 by omega] at hx
    cases hx
    exact hc
  · rw [zn_N] at ha
    rw [zk_N, if_neg (by omega)]
    exact r4 a (by omega)
  · rw [zn_N] at ha2
    rw [zk_N]
    split
    · exact ht
    · exact r5 a ha (by omega)
theorem zdef (t k : Nat) (ht : t < 12) (hk : k < zNF t) (h0 : zH) (N : Nat) : defaultValue (zTy t k) = zfv b B (zN h0 t 0 N) (zn h0) k := by
  have e : ∀ ty : FieldType, (ty = .int ∨ ty = .boolean ∨ (∃ C, ty = .object C) ∨ ∃ u, ty = .array u) → defaultValue ty = if zisI ty = true then Value.int 0 else va_rf ((none : Option Nat).map (zadr b B)) := by
    rintro ty (rfl | rfl | ⟨C, rfl⟩ | ⟨u, rfl⟩) <;> rfl
  have e2 : zTy t k = .int ∨ zTy t k = .boolean ∨ (∃ C, zTy t k = .object C) ∨ ∃ u, zTy t k = .array u := by
    have h3 := zokT_at t ht k hk
    cases hz : zTy t k <;> rw [hz] at h3 <;> simp [zokT] at h3 <;> simp
  rw [e _ e2]
  unfold zfv
  rw [zk_N, if_pos rfl, zi_N, if_pos rfl, zr_N, if_pos rfl]
theorem zs_new (C : zCx p s m args meth c cc own nm nL b B L xs dC dI cA) (hn0 : s.heap.size + 1 = B + n0) (hle : n0 ≤ zn h) (hu : u0 ≤ zu h) {o : zO} {idx : Nat} (hdg : decode cc pc = .ok (.new idx, 3)) (ho : ∀ q ∈ o.2.2.2, q.1 < 12 ∧ q.2.1 = zNF q.1 ∧ Cond.classLink own idx (zC q.1) ∈ zGood ∧ Cond.instantiable (zC q.1) (zNF q.1) ∈ zGood ∧ Cond.initialized (zC q.1) ∈ zGood) (hs : znew o pc ls st h = some (.inr y))
    (hc : zn y.2.2.2 - n0 ≤ R.cells) (hsl : zu y.2.2.2 - u0 ≤ R.slots)
    (hW : zWA p l e R s m args below meth c Q b B L xs dC dI cA n0 u0 nL y) : zWA p l e R s m args below meth c Q b B L xs dC dI cA n0 u0 nL (pc, ls, st, h) := by
  obtain ⟨hx, hb, hml, hown, hts, hK, -⟩ := C
  unfold znew at hs
  split at hs
  · rename_i q hq
    obtain ⟨ht, hN, w1, w2, w3⟩ := ho q (by rw [hq]; exact List.mem_singleton.mpr rfl)
    simp only [zgo, Option.some.injEq, Sum.inr.injEq] at hs
    subst hs
    dsimp only at hc hsl
    rw [zn_N] at hc
    rw [zu_N, hN] at hsl
    intro H locs la hR hS hl
    have hR : zRep b B L xs dC dI cA h H := hR
    have hKn := hK.1.1 _ _ (zcl_at _ ht)
    refine W.newcK hx hb hown (hts _ w1) (hts _ w2) (hts _ w3) rfl hdg (cells := zn h - n0) (slots := zu h - u0) (by omega) (by omega) hKn.2.1 rfl fun H1 kC hkC e1 z1 o1 => ?_
    have hadr : zadr b B (zn h) = H.size := by
      have := hR.2.1
      have := hR.2.2.1
      rw [zadr_pos this]
      omega
    have K := hW H1 locs la (hR.push (t := q.1) (n := 0) (N := q.2.1) (by omega) z1 o1 ?_) ⟨Nat.le_trans hS.1 (by omega), fun x h1 h2 => (o1 x (Nat.lt_of_lt_of_le h1 hS.1)).trans (hS.2.1 x h1 h2), hS.2.2⟩ hl
    · dsimp only at K
      rw [zn_N, zu_N, hN] at K
      refine W.cs (cells' := zn h + 1 - n0) (slots' := zu h + zNF q.1 - u0) (by omega) (by omega) ?_
      have e5 : (ztr b B (.inr (.inr (some (zn h)))) : Value) = .ref H.size := by
        show va_rf (some (zadr b B (zn h))) = _
        rw [hadr]
        rfl
      rw [List.map_cons, e5] at K
      exact K
    · rw [zcell_obj (by rw [zk_N, if_pos rfl]; exact ht), zk_N, if_pos rfl]
      exact ⟨_, zcl_at _ ht, (u_born (zTy q.1) hts (zin_at _ ht) hKn hkC e1 (zty_at _ ht)).to (fun k hk => by
        rw [zdef (b := b) (B := B) q.1 k ht hk h q.2.1]
        unfold vp_V
        rw [List.getD_eq_getElem?_getD, zfv_get hk]
        rfl)⟩
  · cases hs
theorem zs_newa (C : zCx p s m args meth c cc own nm nL b B L xs dC dI cA) (hn0 : s.heap.size + 1 = B + n0) (hle : n0 ≤ zn h) (hu : u0 ≤ zu h) (hdg : decode cc pc = .ok (.newarray .int, 2)) (harr : Cond.arrayClass .int ∈ zGood) (hs : znewa 2 12 pc ls st h = some (.inr y))
    (hc : zn y.2.2.2 - n0 ≤ R.cells) (hsl : zu y.2.2.2 - u0 ≤ R.slots)
    (hW : zWA p l e R s m args below meth c Q b B L xs dC dI cA n0 u0 nL y) : zWA p l e R s m args below meth c Q b B L xs dC dI cA n0 u0 nL (pc, ls, st, h) := by
  obtain ⟨hx, hb, hml, hown, hts, hK, -⟩ := C
  unfold znewa at hs
  split at hs
  · rename_i n r
    split at hs
    · cases hs
    · rename_i hn
      simp only [zgo, Option.some.injEq, Sum.inr.injEq] at hs
      subst hs
      dsimp only at hc hsl
      rw [zn_N] at hc
      rw [zu_N] at hsl
      intro H locs la hR hS hl
      have hR : zRep b B L xs dC dI cA h H := hR
      have hb2 : n.toNatClampNeg * componentBytes (newarray.typeOf .int) ≤ 536870912 := by
        have h3 : n.toNatClampNeg ≤ 1000 := Nat.not_lt.mp fun z => hn (Or.inr z)
        have h4 : componentBytes (newarray.typeOf .int) = 4 := by decide
        rw [h4]
        omega
      refine va_newaK hx hb (atype := .int) (hts _ harr) rfl hdg (cells := zn h - n0) (slots := zu h - u0) rfl (fun z => hn (Or.inl z)) rfl hb2 (by omega) (by omega) rfl fun H1 cA2 e1 z1 o1 hAr hNm => ?_
      have hca : cA2 = cA 0 := by
        have h5 : va_RA s (cA 0) .int := (hK.1.2 0 _ rfl).2
        exact Option.some.inj (hNm.symm.trans h5)
      subst hca
      have hadr : zadr b B (zn h) = H.size := by
        have := hR.2.1
        have := hR.2.2.1
        rw [zadr_pos this]
        omega
      have K := hW H1 locs la (hR.push (t := 12) (n := n.toNatClampNeg) (N := n.toNatClampNeg) (by omega) z1 o1 ?_) ⟨Nat.le_trans hS.1 (by omega), fun x h1 h2 => (o1 x (Nat.lt_of_lt_of_le h1 hS.1)).trans (hS.2.1 x h1 h2), hS.2.2⟩ hl
      · dsimp only at K
        rw [zn_N, zu_N] at K
        refine W.cs (cells' := zn h + 1 - n0) (slots' := zu h + n.toNatClampNeg - u0) (by omega) (by omega) ?_
        have e5 : (ztr b B (.inr (.inr (some (zn h)))) : Value) = .ref H.size := by
          show va_rf (some (zadr b B (zn h))) = _
          rw [hadr]
          rfl
        rw [List.map_cons, e5] at K
        exact K
      · rw [zcell_ints (by rw [zk_N, if_pos rfl]), zk_N, if_pos rfl]
        show H1[H.size]? = some (vp_cell _ _)
        rw [vp_cell_i, e1]
        congr 2
        funext j
        rw [zi_N, if_pos rfl]
        rfl
  · cases hs
theorem zs_anew (C : zCx p s m args meth c cc own nm nL b B L xs dC dI cA) (hn0 : s.heap.size + 1 = B + n0) (hle : n0 ≤ zn h) (hu : u0 ≤ zu h) {idx t : Nat} (h13 : 13 ≤ t) (h15 : t ≤ 15) (hdg : decode cc pc = .ok (.anewarray idx, 3)) (hlk : Cond.classLink own idx (zC (if t = 13 then 8 else if t = 14 then 4 else 7)) ∈ zGood) (hov : Cond.arrayOver (.object (zC (if t = 13 then 8 else if t = 14 then 4 else 7))) ∈ lw_tbl) (hs : znewa 3 t pc ls st h = some (.inr y))
    (hc : zn y.2.2.2 - n0 ≤ R.cells) (hsl : zu y.2.2.2 - u0 ≤ R.slots)
    (hW : zWA p l e R s m args below meth c Q b B L xs dC dI cA n0 u0 nL y) : zWA p l e R s m args below meth c Q b B L xs dC dI cA n0 u0 nL (pc, ls, st, h) := by
  obtain ⟨hx, hb, hml, hown, hts, hK, -⟩ := C
  unfold znewa at hs
  split at hs
  · rename_i n r
    split at hs
    · cases hs
    · rename_i hn
      simp only [zgo, Option.some.injEq, Sum.inr.injEq] at hs
      subst hs
      dsimp only at hc hsl
      rw [zn_N] at hc
      rw [zu_N] at hsl
      intro H locs la hR hS hl
      have hR : zRep b B L xs dC dI cA h H := hR
      have hb2 : n.toNatClampNeg * 4 ≤ 536870912 := by
        have h3 : n.toNatClampNeg ≤ 1000 := Nat.not_lt.mp fun z => hn (Or.inr z)
        omega
      have hao : va_AO (zC (if t = 13 then 8 else if t = 14 then 4 else 7)) s := hK.2.1 _ hov rfl
      refine W.anew hx hb hown (hts _ hlk) (va_AO.use hao) rfl hdg (cells := zn h - n0) (slots := zu h - u0) rfl (fun z => hn (Or.inl z)) hb2 (by omega) (by omega) fun cA2 kA comp f1 f2 f3 f4 => ?_
      have hca : cA2 = cA (t - 12) := by
        obtain ⟨_, _, -, -, -, h5⟩ := (hK.1.2 _ _ (ztys_at cA t h13 h15)).2
        exact Option.some.inj (f1.symm.trans h5)
      subst hca
      generalize hH1 : H.push ({ cls := cA (t - 12), slots := Array.replicate n.toNatClampNeg .null, vm := .none } : Cell) = H1
      have z1 : H1.size = H.size + 1 := by rw [← hH1, Array.size_push]
      have e1 : H1[H.size]? = some (arrV (cA (t - 12)) n.toNatClampNeg (fun _ => .null)) := by rw [← hH1, Array.getElem?_push_size, ← arrV_new]
      have o1 : ∀ q : Nat, q < H.size → H1[q]? = H[q]? := fun q hq => by rw [← hH1, Array.getElem?_push, if_neg (Nat.ne_of_lt hq)]
      have hadr : zadr b B (zn h) = H.size := by
        have := hR.2.1
        have := hR.2.2.1
        rw [zadr_pos this]
        omega
      have K := hW H1 locs la (hR.push (t := t) (n := n.toNatClampNeg) (N := n.toNatClampNeg) (by omega) z1 o1 ?_) ⟨Nat.le_trans hS.1 (by omega), fun x h1 h2 => (o1 x (Nat.lt_of_lt_of_le h1 hS.1)).trans (hS.2.1 x h1 h2), hS.2.2⟩ hl
      · dsimp only at K
        rw [zn_N, zu_N] at K
        refine W.cs (cells' := zn h + 1 - n0) (slots' := zu h + n.toNatClampNeg - u0) (by omega) (by omega) ?_
        have e5 : (ztr b B (.inr (.inr (some (zn h)))) : Value) = .ref H.size := by
          show va_rf (some (zadr b B (zn h))) = _
          rw [hadr]
          rfl
        rw [List.map_cons, e5] at K
        exact K
      · rw [zcell_refs (by rw [zk_N, if_pos rfl]; exact (show 12 < t by omega)), zk_N, if_pos rfl]
        show H1[H.size]? = some (vp_cell _ _)
        rw [vp_cell_q, e1]
        congr 2
        funext j
        rw [zr_N, if_pos rfl]
        rfl
  · cases hs
/-- instanceof: 1 where the class is the named one or can be cast to it, 0 where it is told that it can't -/
def zIo (t : Nat) (nm2 : String) (k : Nat) : Prop := t < 12 ∧ ((k = 1 ∧ (zC t = nm2 ∨ (Cond.castable (zC t) nm2 ∈ lw_tbl))) ∨ (k = 0 ∧ ((zC t = RX8 ∧ nm2 = RX5) ∨ (zC t = RX8 ∧ nm2 = RX0) ∨ (zC t = RX0 ∧ nm2 = RX5))))
theorem zs_inst (C : zCx p s m args meth c cc own nm nL b B L xs dC dI cA) {o : zO} {idx : Nat} {nm2 : String} (hdg : decode cc pc = .ok (.instanceof idx, 3)) (hlk : Cond.classLink own idx nm2 ∈ zGood) (ho : ∀ q ∈ o.2.2.2, zIo q.1 nm2 q.2.1) (hs : zinst o pc ls st h = some (.inr y))
    (hW : zWA p l e R s m args below meth c Q b B L xs dC dI cA n0 u0 nL y) : zWA p l e R s m args below meth c Q b B L xs dC dI cA n0 u0 nL (pc, ls, st, h) := by
  obtain ⟨hx, hb, hml, hown, hts, hK, -⟩ := C
  unfold zinst at hs
  split at hs
  · rename_i a r
    cases hf : zfind o.2.2.2 (zk h a).1 with
    | none => rw [hf] at hs; cases hs
    | some k =>
      rw [hf, Option.bind_some] at hs
      obtain ⟨q, hq, e1, e2⟩ := zfind_mem hf
      obtain ⟨ht, hi⟩ := ho q hq
      rw [e1] at ht hi
      rw [e2] at hi
      simp only [zgo, Option.some.injEq, Sum.inr.injEq] at hs
      subst hs
      intro H locs la hR hS hl
      have hR : zRep b B L xs dC dI cA h H := hR
      obtain ⟨a1, a2⟩ := hR.in (a := a) (by omega)
      have he := zws_get b B cA h a1 a2
      rw [zcell_obj ht] at he
      have hrec := va_recv hK.1 hR.1 (zcl_at _ ht) he
      have K := hW H locs la hR hS hl
      dsimp only at K
      rcases hi with ⟨rfl, hi⟩ | ⟨rfl, hi⟩
      · rw [if_pos rfl] at K
        rcases hi with hi | hi
        · subst hi
          exact va_instS hx hb hown (hts _ hlk) (hK.1.1 _ _ (zcl_at _ ht)).2 hrec hdg K
        · exact va_instY hx hb hown (hts _ hlk) (hK.2.1 _ hi rfl) hrec hdg K
      · rw [if_neg (by decide)] at K
        refine va_instNo hx hb hown (hts _ hlk) ?_ hrec hdg K
        rcases hi with ⟨h1, h2⟩ | ⟨h1, h2⟩ | ⟨h1, h2⟩
        · show va_Nc (zC (zk h a).1) nm2 s
          rw [h1, h2]; exact hK.2.2.1
        · show va_Nc (zC (zk h a).1) nm2 s
          rw [h1, h2]; exact hK.2.2.2.1
        · show va_Nc (zC (zk h a).1) nm2 s
          rw [h1, h2]; exact hK.2.2.2.2
  · cases hs
theorem zs_copy (C : zCx p s m args meth c cc own nm nL b B L xs dC dI cA) (hn0 : s.heap.size + 1 = B + n0) (hle : n0 ≤ zn h) {idx : Nat} (hdg : decode cc pc = .ok (.invokestatic idx, 3)) (w1 : Cond.methodLink own idx arraycopyName ∈ zGood) (w2 : Cond.native arraycopyName ∈ zGood) (w3 : Cond.static arraycopyName ∈ zGood) (w4 : Cond.initialized "java/lang/System" ∈ zGood) (hfr : 1 ≤ R.frames) (hlo : 40 ≤ R.locals) (hs : zcopy pc ls st h = some (.inr y))
    (hW : zWA p l e R s m args below meth c Q b B L xs dC dI cA n0 u0 nL y) : zWA p l e R s m args below meth c Q b B L xs dC dI cA n0 u0 nL (pc, ls, st, h) := by
  obtain ⟨hx, hb, hml, hown, hts, hK, -⟩ := C
  unfold zcopy at hs
  split at hs
  · rename_i n dp q sp a r
    split at hs
    · rename_i hc
      obtain ⟨ta, tq, c1, c2, c3, c4, c5, rfl⟩ := hc
      simp only [zgo, Option.some.injEq, Sum.inr.injEq] at hs
      subst hs
      intro H locs la hR hS hl
      have hR : zRep b B L xs dC dI cA h H := hR
      obtain ⟨a1, a2⟩ := hR.in (a := a) (by omega)
      obtain ⟨q1, q2⟩ := hR.in (a := q) (by omega)
      have he := zws_get b B cA h a1 a2
      have hq := zws_get b B cA h q1 q2
      rw [zcell_ints ta] at he
      rw [zcell_ints tq] at hq
      refine va_copyi (D := (dC, dI)) (rest := []) hx hb (by rw [hml, hl.1]) hown (hts _ w1) (hts _ w2) (hts _ w3) (hts _ w4) hK.1 hR.1 (zws_D b B cA h) (zS_self hS) (a - 1) (q - 1) 0 0 he hq rfl rfl rfl c3 c2 c1 c4 c5 (fun _ _ => rfl) hfr ?_ hdg (fun H1 locs1 hP1 _ hS1 => zsize fun hz => ?_)
      · have : nativeFrameWords "java/lang/System" "arraycopy" 5 + 11 ≤ 40 := by decide +kernel
        simpa using Nat.le_trans this hlo
      · have hz : H1.size ≤ s.heap.size + (zn h - n0) := hz
        have hz2 : H1.size = H.size := by
          have := hS1.1
          have := hR.2.1
          omega
        refine hW H1 locs1 la (hR.put (a := q) (h' := zwC h a sp.toNatClampNeg q dp.toNatClampNeg n.toNatClampNeg) (by omega) rfl (fun _ => rfl) ?_ ?_ hz2 ?_) (zS_trans hS hS1) hl
        · intro x hx
          have e : ∀ j', zi (zwC h a sp.toNatClampNeg q dp.toNatClampNeg n.toNatClampNeg) x j' = zi h x j' := fun j' => by rw [zi_wC, if_neg (fun z => hx z.1)]
          have e3 : zi (zwC h a sp.toNatClampNeg q dp.toNatClampNeg n.toNatClampNeg) x = zi h x := funext e
          have e4 : zfv b B (zwC h a sp.toNatClampNeg q dp.toNatClampNeg n.toNatClampNeg) x = zfv b B h x := funext fun j' => by unfold zfv; rw [zk_wC, zr_wC, e]
          unfold zcell
          rw [zk_wC, e3, e4]
          rfl
        · intro j'
          rw [zi_wC, if_neg (fun z => by omega)]
        · rw [zcell_ints (h := zwC h a sp.toNatClampNeg q dp.toNatClampNeg n.toNatClampNeg) tq]
          have e5 : zi (zwC h a sp.toNatClampNeg q dp.toNatClampNeg n.toNatClampNeg) q = va_cpy (zi h a) (zi h q) sp.toNatClampNeg dp.toNatClampNeg n.toNatClampNeg := by
            funext j'
            rw [zi_wC]
            unfold va_cpy
            by_cases z : dp.toNatClampNeg ≤ j' ∧ j' < dp.toNatClampNeg + n.toNatClampNeg
            · rw [if_pos ⟨rfl, z⟩, if_pos z]
            · rw [if_neg (fun w => z w.2), if_neg z]
          rw [e5]
          exact hP1
    · cases hs
  · cases hs
end ZMOPS
end
section
/-! methods: name, code, locals, parameters, what it answers, its instructions -/
abbrev zQ : Type := MethodName × ByteArray × Nat × Nat × Option FieldType × List (Nat × zO)
def zlk : List (Nat × zO) → Nat → Option zO
  | [], _ => none
  | q :: l, pc => if q.1 = pc then some q.2 else zlk l pc
theorem zlk_mem : ∀ {tab : List (Nat × zO)} {pc : Nat} {o : zO}, zlk tab pc = some o → (pc, o) ∈ tab
  | [], pc, o, h => by simp [zlk] at h
  | q :: l, pc, o, h => by
    unfold zlk at h
    split at h
    · rename_i hq
      obtain ⟨q1, q2⟩ := q
      cases hq
      cases h
      exact List.mem_cons_self
    · exact List.mem_cons_of_mem _ (zlk_mem h)
def zP (M : Nat → zQ) (mid : Nat) : Nat × (Nat → Option zO) := ((M mid).2.2.1, zlk (M mid).2.2.2.2.2)
def zcode (M : Nat → zQ) (mid : Nat) : Cond := .code (M mid).1 (M mid).2.1 (M mid).2.2.1 (M mid).2.2.2.2.1
def zcomp (t : Nat) : Nat := if t = 13 then 8 else if t = 14 then 4 else 7
/-- the words that an instruction needs -/
def zref (q : Nat × Nat × Nat × String × String) : String := if q.2.2.1 = 0 then (zF q.1 q.2.1).1 else q.2.2.2.1
def zneedF (own : String) (i : Nat) (q : Nat × Nat × Nat × String × String) : List Cond :=
  .fieldLink own i (zref q) (zF q.1 q.2.1).2.1 (zF q.1 q.2.1).2.2.1 :: if q.2.2.1 = 0 then [] else [.sameField q.2.2.2.1 (zF q.1 q.2.1).1 (zF q.1 q.2.1).2.1 (zF q.1 q.2.1).2.2.1]
def zxn (M : Nat → zQ) (q : Nat × Nat × Nat × String × String) : MethodName := ⟨q.2.2.2.1, (M q.2.1).1.name, (M q.2.1).1.desc⟩
def zown (M : Nat → zQ) (q : Nat × Nat × Nat × String × String) : MethodName := ⟨q.2.2.2.2, (M q.2.1).1.name, (M q.2.1).1.desc⟩
/-- calls: 0 a method of the receiver's own class, 1 an inherited one, 2 static, 3 a nest mate's static, 4 a constructor, 5 super's, 10 + k one that overrides method k -/
def zneedC (M : Nat → zQ) (own : String) (i : Nat) (q : Nat × Nat × Nat × String × String) : List Cond := match q.2.2.1 with
  | 0 => [.methodLink own i (M q.2.1).1, .instanceMethod (M q.2.1).1, .selects (zC q.1) (M q.2.1).1 (M q.2.1).1, .initialized (zC q.1), zcode M q.2.1]
  | 1 => [.methodLink own i (zxn M q), .sameMethod q.2.2.2.1 q.2.2.2.2 (M q.2.1).1.name (M q.2.1).1.desc, .selects (zC q.1) (zxn M q) (M q.2.1).1, .instanceMethod (M q.2.1).1, .initialized (M q.2.1).1.cls, zcode M q.2.1]
  | 2 => [.methodLink own i (M q.2.1).1, .static (M q.2.1).1, .initialized (M q.2.1).1.cls, zcode M q.2.1]
  | 3 => [.static (M q.2.1).1, .initialized (M q.2.1).1.cls, zcode M q.2.1]
  | 4 => [.methodLink own i (M q.2.1).1, .instanceMethod (M q.2.1).1, .initialized (M q.2.1).1.cls, zcode M q.2.1]
  | 5 => [.methodLink own i (M q.2.1).1, .sameMethod (M q.2.1).1.cls (M q.2.1).1.cls (M q.2.1).1.name (M q.2.1).1.desc, .superclass own (M q.2.1).1.cls, .instanceMethod (M q.2.1).1, .initialized (M q.2.1).1.cls, zcode M q.2.1]
  | k => [.methodLink own i (zxn M q), .sameMethod q.2.2.2.1 q.2.2.2.2 (M q.2.1).1.name (M q.2.1).1.desc, .selects (zC q.1) (zxn M q) (M q.2.1).1, .instanceMethod (M q.2.1).1, .initialized (M q.2.1).1.cls, zcode M q.2.1, .instanceMethod (zown M q), zcode M (k - 10)]
def zneed (M : Nat → zQ) (own : String) (o : zO) : List Cond := match o.1 with
  | .ldc i => [.constant own i (Int32.ofInt o.2.2.1)]
  | .ldc_w i => [.constant own i (Int32.ofInt o.2.2.1)]
  | .ldc2_w i => [.constantLong own i (Int64.ofInt o.2.2.1)]
  | .getfield i => o.2.2.2.flatMap (zneedF own i)
  | .putfield i => o.2.2.2.flatMap (zneedF own i)
  | .new i => o.2.2.2.flatMap fun q => [.classLink own i (zC q.1), .instantiable (zC q.1) (zNF q.1), .initialized (zC q.1)]
  | .newarray _ => [.arrayClass .int]
  | .anewarray i => [.classLink own i (zC (zcomp o.2.2.1.toNat))]
  | .instanceof i => o.2.2.2.map fun q => .classLink own i q.2.2.2.1
  | .invokestatic i => if o.2.2.1 = -2 then [.methodLink own i arraycopyName, .native arraycopyName, .static arraycopyName, .initialized "java/lang/System"] else o.2.2.2.flatMap (zneedC M own i)
  | .invokevirtual i => o.2.2.2.flatMap (zneedC M own i)
  | .invokespecial i => if o.2.2.1 = -1 then [.methodLink own i objectInit, .instanceMethod objectInit, .code objectInit ⟨#[0xb1]⟩ 1 none] else o.2.2.2.flatMap (zneedC M own i)
  | _ => []
/-- words that are told apart: nest mates, casts, arrays over a class -/
def zneedN (M : Nat → zQ) (own : String) (o : zO) : List Cond := match o.1 with
  | .anewarray _ => [.arrayOver (.object (zC (zcomp o.2.2.1.toNat)))]
  | .instanceof _ => o.2.2.2.flatMap fun q => if q.2.2.1 = 1 then [.castable (zC q.1) q.2.2.2.1] else []
  | .invokestatic i => o.2.2.2.flatMap fun q => if q.2.2.1 = 3 then [.methodLinkNest own i (M q.2.1).1 q.2.2.2.1] else []
  | _ => []
/-- names that must be equal -/
def zeqs (M : Nat → zQ) (own : String) (o : zO) : List (String × String) := match o.1 with
  | .putfield _ => o.2.2.2.flatMap fun q => if (zF q.1 q.2.1).2.2.2 = true then [((zF q.1 q.2.1).1, own)] else []
  | .instanceof _ => o.2.2.2.flatMap fun q => match q.2.2.1 with
    | 0 => [(zC q.1, q.2.2.2.1)]
    | 2 => [(zC q.1, RX8), (q.2.2.2.1, RX5)]
    | 3 => [(zC q.1, RX8), (q.2.2.2.1, RX0)]
    | 4 => [(zC q.1, RX0), (q.2.2.2.1, RX5)]
    | _ => []
  | .invokevirtual _ => o.2.2.2.flatMap fun q => match q.2.2.1 with
    | 0 => [((M q.2.1).1.cls, zC q.1)]
    | 1 => [((M q.2.1).1.cls, q.2.2.2.2)]
    | k => [((M (k - 10)).1.cls, q.2.2.2.2), ((M (k - 10)).1.name, (M q.2.1).1.name), ((M (k - 10)).1.desc, (M q.2.1).1.desc)]
  | _ => []
def zint (pc : Nat) (off : Int) : Bool := decide ((pc : Int) + off = (ztg pc off : Int))
/-- numbers that must fit -/
def zoks (M : Nat → zQ) (nm : String) (ret : Option FieldType) (pc : Nat) (o : zO) : Bool := match o.1 with
  | .goto off => zint pc off
  | .ifCond _ off => zint pc off
  | .if_icmp _ off => zint pc off
  | .ifnull off => zint pc off
  | .ifnonnull off => zint pc off
  | .tableswitch d _ _ offs => zint pc d && offs.toList.all (zint pc)
  | .lookupswitch d ps => (ps.toList.zip (ps.toList.drop 1)).all (fun (a, next) => a.1 < next.1) && zint pc d && ps.toList.all (fun q => zint pc q.2)
  | .getfield _ => o.2.2.2.all fun q => decide (q.1 < 12) && decide (q.2.1 < zNF q.1) && (decide (o.2.2.1 = 2) == !zisI (zTy q.1 q.2.1))
  | .putfield _ => o.2.2.2.all fun q => decide (q.1 < 12) && decide (q.2.1 < zNF q.1) && ((zF q.1 q.2.1).2.2.2 == false || decide (nm = "<init>")) && (decide (o.2.2.1 ≠ 0) || decide (zTy q.1 q.2.1 = .int)) && (decide (o.2.2.1 ≠ 1) || decide (zTy q.1 q.2.1 = .boolean)) && (decide (o.2.2.1 ≠ 2) || (zokT (zTy q.1 q.2.1) && !zisI (zTy q.1 q.2.1)))
  | .new _ => o.2.2.2.all fun q => decide (q.1 < 12) && decide (q.2.1 = zNF q.1)
  | .anewarray _ => decide (13 ≤ o.2.2.1.toNat) && decide (o.2.2.1.toNat ≤ 15)
  | .instanceof _ => o.2.2.2.all fun q => decide (q.1 < 12) && decide (q.2.2.1 < 5) && (if q.2.2.1 < 2 then decide (q.2.1 = 1) else decide (q.2.1 = 0)) && o.2.2.2.all fun q2 => decide (q2.2.2.2.1 = q.2.2.2.1)
  | .invokestatic _ => decide (o.2.2.1 = -2) || o.2.2.2.all fun q => (decide (q.2.2.1 = 2) || decide (q.2.2.1 = 3)) && decide ((M q.2.1).2.2.2.1 = o.2.2.1.toNat)
  | .invokevirtual _ => o.2.2.2.all fun q => decide (q.1 < 12) && (decide (q.2.2.1 < 2) || decide (10 ≤ q.2.2.1)) && decide ((M q.2.1).2.2.2.1 = o.2.2.1.toNat)
  | .invokespecial _ => decide (o.2.2.1 = -1) || o.2.2.2.all fun q => (if q.2.2.1 = 4 then decide ((M q.2.1).1.name = "<init>") && decide ((M q.2.1).2.2.2.2.1 = none) else decide (q.2.2.1 = 5) && decide ((M q.2.1).1.name ≠ "<init>")) && decide ((M q.2.1).2.2.2.1 = o.2.2.1.toNat)
  | .ireturn => (decide (o.2.2.1 = 0) && decide (ret = some .int)) || (decide (o.2.2.1 = 1) && decide (ret = some .boolean))
  | .lreturn => decide (ret = some .long)
  | .areturn => match ret with
    | some (.object _) => true
    | some (.array _) => true
    | _ => false
  | .return_ => decide (ret = none)
  | _ => true
/-- how long an instruction is -/
def zlen (o : zO) : Nat := match o.1 with
  | .bipush _ => 2 | .ldc _ => 2 | .iload _ => 2 | .lload _ => 2 | .aload _ => 2 | .istore _ => 2 | .lstore _ => 2 | .astore _ => 2 | .newarray _ => 2
  | .sipush _ => 3 | .ldc_w _ => 3 | .ldc2_w _ => 3 | .iinc _ _ => 3 | .ifCond _ _ => 3 | .if_icmp _ _ => 3 | .ifnull _ => 3 | .ifnonnull _ => 3 | .goto _ => 3
  | .getfield _ => 3 | .putfield _ => 3 | .new _ => 3 | .anewarray _ => 3 | .instanceof _ => 3 | .invokestatic _ => 3 | .invokevirtual _ => 3 | .invokespecial _ => 3
  | .tableswitch _ _ _ _ => o.2.1
  | .lookupswitch _ _ => o.2.1
  | _ => 1
/-- all that a method's instructions need is there -/
def zTok (M : Nat → zQ) (own nm : String) (cc : ByteArray) (ret : Option FieldType) (tab : List (Nat × zO)) : Prop := ∀ q ∈ tab,
  decode cc q.1 = .ok (q.2.1, zlen q.2) ∧ (∀ w ∈ zneed M own q.2, w ∈ zGood) ∧ (∀ w ∈ zneedN M own q.2, w ∈ lw_tbl) ∧ (∀ z ∈ zeqs M own q.2, z.1 = z.2) ∧ zoks M nm ret q.1 q.2 = true
def zMok (M : Nat → zQ) (mid : Nat) : Prop := zTok M (M mid).1.cls (M mid).1.name (M mid).2.1 (M mid).2.2.2.2.1 (M mid).2.2.2.2.2 ∧ plainName (M mid).1.cls = true ∧ ((M mid).1.cls ≠ "java/lang/invoke/MethodHandle" ∧ (M mid).1.cls ≠ "java/lang/invoke/VarHandle") ∧ (parseMethodDescriptor (M mid).1.desc).map (fun d => d.parameters.length) = some (M mid).2.2.2.1 ∧ (M mid).2.2.1 ≤ 20
def zwsM (M : Nat → zQ) (mid : Nat) : List Cond := zcode M mid :: zGood
theorem zGood_good {w : Cond} (h : w ∈ zGood) : goodWord w = true := (List.mem_filter.mp h).2
theorem zGoodIn {ws : List Cond} (h : ∀ w ∈ ws, w ∈ zGood) : GoodIn zGood ws := fun w hw => ⟨h w hw, good_of_word (zGood_good (h w hw))⟩
theorem zwsM_in {M : Nat → zQ} {mid : Nat} (h : zcode M mid ∈ zGood) : ∀ w ∈ zwsM M mid, w ∈ zGood := fun w hw => (List.mem_cons.mp hw).elim (fun e => e ▸ h) id
def zrm (d mc ms : Nat) : Room := { frames := d, cells := mc, slots := ms, locals := 40 * d }
def zPc (b B L : Nat) (xs : Nat → Int32) (dC : Nat → ClassId) (dI : Nat → Nat → Nat) (cA : Nat → ClassId) (as : List zV) (h : zH) : Array Value → State → Prop := fun v U => v = (as.map (ztr b B)).toArray ∧ zRep b B L xs dC dI cA h U.heap ∧ zK dC dI cA U ∧ va_X b L xs U U.heap ∧ B ≤ U.heap.size
def zQc (b B L : Nat) (xs : Nat → Int32) (dC : Nat → ClassId) (dI : Nat → Nat → Nat) (cA : Nat → ClassId) (r : zR) : Array Value → State → Outcome → State → Prop := fun _ st oc t => oc = .returned (r.1.map (ztr b B)) ∧ zRep b B L xs dC dI cA r.2 t.heap ∧ va_F (fun q => B ≤ q) st t
theorem zPc_blind {b B L : Nat} {xs : Nat → Int32} {dC : Nat → ClassId} {dI : Nat → Nat → Nat} {cA : Nat → ClassId} {as : List zV} {h : zH} : FrameBlind (zPc b B L xs dC dI cA as h) := by
  intro a U g mk q
  obtain ⟨q1, q2, q3, q4, q5⟩ := q
  exact ⟨q1, q2, zK.moved (s := U) (U := U.calling g mk a) (State.WarmedH.refl U) q3, va_X.moved (u := U) (U := U.calling g mk a) (Vm.Alike.refl U.vm) q4, q5⟩
/-- what a call answers as a contract -/
def zMet (M : Nat → zQ) (l : Launch) (b B L : Nat) (xs : Nat → Int32) (dC : Nat → ClassId) (dI : Nat → Nat → Nat) (cA : Nat → ClassId) (d : Nat) : Prop := ∀ (mid : Nat) (as : List zV) (h : zH) (r : zR), zcall (zP M) d mid as h = some r →
  (zn h ≤ zn r.2 ∧ zu h ≤ zu r.2) ∧ (zcode M mid ∈ zGood → Met l (M mid).1 (zwsM M mid) (zrm d (zn r.2 - zn h) (zu r.2 - zu h)) (zPc b B L xs dC dI cA as h) (zQc b B L xs dC dI cA r) (zn r.2 - zn h) (zu r.2 - zu h) (fun q => B ≤ q))
end
section
/-! calls are sound; a method's run is sound -/
theorem zcatsum (b B : Nat) (r : List zV) (h : r.length ≤ 4) : ((r.map (ztr b B)).map fun v => v.category).sum ≤ 8 := by
  have key : ∀ r : List zV, ((r.map (ztr b B)).map fun v => v.category).sum ≤ 2 * r.length := by
    intro r
    induction r with
    | nil => simp
    | cons v r ih =>
      have : (ztr b B v).category ≤ 2 := by rcases lv_cat (ztr b B v) with q | q <;> omega
      simp only [List.map_cons, List.sum_cons, List.length_cons]
      omega
  have := key r
  omega
section ZSND
variable {p : Program} {l : Launch} {e : Env} {R : Room} {s : State} {m : MethodId} {args : Array Value} {below : List Frame} {meth : Method} {c : Code} {Q : State → Prop} {cc : ByteArray} {own nm : String} {nL b B L n0 u0 d : Nat} {xs : Nat → Int32} {dC : Nat → ClassId} {dI : Nat → Nat → Nat} {cA : Nat → ClassId} {M : Nat → zQ}
variable {pc : Nat} {ls : zL} {st : List zV} {h : zH} {y : zS}
theorem zs_pre (C : zCx p s m args meth c cc own nm nL b B L xs dC dI cA) {as : List zV} {H : Heap} {locs : List Loc} (hR : zRep b B L xs dC dI cA h H) (hS : va_S (fun q => B ≤ q) s.heap H locs) : ∀ U : State, U.heap = H → s.WarmedH U.vm → zPc b B L xs dC dI cA as h (as.map (ztr b B)).toArray U := by
  obtain ⟨-, -, -, -, -, hK, hX, hbB, hBs, -⟩ := C
  intro U hU hW
  refine ⟨rfl, by rw [hU]; exact hR, hK.moved hW, ?_, by rw [hU]; exact Nat.le_trans hBs hS.1⟩
  rw [hU]
  exact va_X.moved hW.alike (hX.kept (hS.2.1 b (Nat.lt_of_lt_of_le hbB hBs) (Nat.not_le.mpr hbB)))
theorem zs_back {r : zR} {H : Heap} {locs : List Loc} {la : Array Slot} {ce sl mc ms : Nat} {st0 rest : List Value} {a : Array Value} (hr : va_Run p l e R s m args below meth c H locs ce sl mc ms (F0 m pc la st0) rest (zQc b B L xs dC dI cA r a) (fun q => B ≤ q)) (hS : va_S (fun q => B ≤ q) s.heap H locs)
    (kk : ∀ (H1 : Heap) (locs1 : List Loc), zRep b B L xs dC dI cA r.2 H1 → va_S (fun q => B ≤ q) s.heap H1 locs1 → W p l e R s m args below meth c H1 locs1 (ce + mc) (sl + ms) Q (F0 m (pc + 3) la ((r.1.map (ztr b B)).toList ++ rest))) : W p l e R s m args below meth c H locs ce sl Q (F0 m pc la st0) := by
  intro T hT X
  obtain ⟨v, st₀, t, T', L', h0, X', hL, e1, e2, ⟨hv, hR1, hz, hk⟩, st⟩ := hr T hT X
  cases hv
  rw [h0] at hz hk
  obtain ⟨t2, a1, b1⟩ := kk T'.heap (locs ++ L') (by rw [e1]; exact hR1) ⟨Nat.le_trans hS.1 (by rw [e1]; exact hz), fun q h1 h2 => by rw [e1, hk q (Nat.lt_of_lt_of_le h1 hS.1) h2]; exact hS.2.1 q h1 h2, fun q hq => by
      rcases List.mem_append.mp hq with h | h
      · exact hS.2.2 q h
      · exact hL q h⟩ T' rfl X'
  exact ⟨t2, st t2 a1, b1⟩
/-- the end of a call, from the machine's answer -/
theorem zs_end {r : zR} {rest : List zV} (hle : n0 ≤ zn h) (hu : u0 ≤ zu h) (hm : zn h ≤ zn r.2 ∧ zu h ≤ zu r.2) {H : Heap} {locs : List Loc} {la : Array Slot} {st0 : List Value} {a : Array Value} (hS : va_S (fun q => B ≤ q) s.heap H locs) (hl : zLV b B la nL ls)
    (hr : va_Run p l e R s m args below meth c H locs (zn h - n0) (zu h - u0) (zn r.2 - zn h) (zu r.2 - zu h) (F0 m pc la st0) (rest.map (ztr b B)) (zQc b B L xs dC dI cA r a) (fun q => B ≤ q))
    (hW : zWA p l e R s m args below meth c Q b B L xs dC dI cA n0 u0 nL (pc + 3, ls, r.1.toList ++ rest, r.2)) : W p l e R s m args below meth c H locs (zn h - n0) (zu h - u0) Q (F0 m pc la st0) := by
  refine zs_back hr hS fun H1 locs1 hR1 hS1 => ?_
  have K := hW H1 locs1 la hR1 hS1 hl
  refine W.cs (cells' := zn r.2 - n0) (slots' := zu r.2 - u0) (by omega) (by omega) ?_
  dsimp only at K
  rw [List.map_append] at K
  have e : (r.1.map (ztr b B)).toList = r.1.toList.map (ztr b B) := by cases r.1 <;> rfl
  rw [e]
  exact K
theorem zs_callS (C : zCx p s m args meth c cc own nm nL b B L xs dC dI cA) (hok : ∀ mid, zMok M mid) (hM : zMet M l b B L xs dC dI cA d) (hfr : d + 1 ≤ R.frames) (hlo : 40 * d + 40 ≤ R.locals) (hle : n0 ≤ zn h) (hu : u0 ≤ zu h) {o : zO} {idx : Nat} (ho1 : o.1 = .invokestatic idx) (hflag : o.2.2.1 ≠ -2) (hdg : decode cc pc = .ok (.invokestatic idx, 3))
    (hw : ∀ w ∈ zneed M own o, w ∈ zGood) (hwn : ∀ w ∈ zneedN M own o, w ∈ lw_tbl) (hoks : ∀ q ∈ o.2.2.2, (q.2.2.1 = 2 ∨ q.2.2.1 = 3) ∧ (M q.2.1).2.2.2.1 = o.2.2.1.toNat) (hs : zcallS (zcall (zP M) d) o pc ls st h = some (.inr y))
    (hc : zn y.2.2.2 - n0 ≤ R.cells) (hsl : zu y.2.2.2 - u0 ≤ R.slots)
    (hW : zWA p l e R s m args below meth c Q b B L xs dC dI cA n0 u0 nL y) : zWA p l e R s m args below meth c Q b B L xs dC dI cA n0 u0 nL (pc, ls, st, h) := by
  have C0 := C
  obtain ⟨hx, hb, hml, hown, hts, hK, -⟩ := C
  unfold zcallS at hs
  split at hs
  · rename_i q hq
    have hq1 : q ∈ o.2.2.2 := by rw [hq]; exact List.mem_singleton.mpr rfl
    obtain ⟨hmode, hnp⟩ := hoks q hq1
    split at hs
    · rename_i hlen
      unfold zback at hs
      cases hcall : zcall (zP M) d q.2.1 (st.take o.2.2.1.toNat).reverse h with
      | none => rw [hcall] at hs; cases hs
      | some r =>
        rw [hcall] at hs
        simp only [Option.bind_some, zgo, Option.some.injEq, Sum.inr.injEq] at hs
        subst hs
        dsimp only at hc hsl
        obtain ⟨hm, hmet⟩ := hM _ _ _ _ hcall
        obtain ⟨-, -, hmh, hpar, hmaxL⟩ := hok q.2.1
        intro H locs la hR hS hl
        have hR : zRep b B L xs dC dI cA h H := hR
        have hstack : (st.map (ztr b B)) = (((st.take o.2.2.1.toNat).reverse.map (ztr b B))).reverse ++ (st.drop o.2.2.1.toNat).map (ztr b B) := by
          rw [List.map_reverse, List.reverse_reverse, ← List.map_append, List.take_append_drop]
        have hn : ((st.take o.2.2.1.toNat).reverse.map (ztr b B)).length = (M q.2.1).2.2.2.1 := by
          rw [hnp]
          simp
          omega
        have hneed : ∀ w ∈ zneedC M own idx q, w ∈ zGood := fun w hw2 => hw w (by
          unfold zneed
          rw [ho1]
          dsimp only
          rw [if_neg hflag]
          exact List.mem_flatMap.mpr ⟨q, hq1, hw2⟩)
        rcases hmode with hmode | hmode
        · unfold zneedC at hneed
          rw [hmode] at hneed
          try dsimp only at hneed
          have hcd : zcode M q.2.1 ∈ zGood := hneed _ (by simp)
          refine zs_end hle hu hm hS hl (va_runS (R := R) (As := (st.take o.2.2.1.toNat).reverse.map (ztr b B)) (rest := (st.drop o.2.2.1.toNat).map (ztr b B)) (n := (M q.2.1).2.2.2.1) ⟨hx, hb, hml, hown, hts⟩ (hmet hcd) (va_cwS (M q.2.1).2.2.2.1 hts (zGoodIn ?_) rfl rfl rfl ⟨hmh.1, hmh.2, hpar⟩ ⟨hfr, ?_⟩) ⟨zPc_blind, zs_pre C0 hR hS⟩ rfl hn hl.1 hstack (lv_room (zcatsum b B _ (by simp; omega))) hdg ⟨by omega, by omega⟩) hW
          · intro w hw2
            rcases List.mem_append.mp hw2 with h1 | h1
            · exact hneed w (by
                simp only [List.mem_cons, List.not_mem_nil, or_false] at h1 ⊢
                rcases h1 with h1 | h1 | h1 <;> simp [h1])
            · exact zwsM_in hcd w h1
          · show 8 + ((M q.2.1).2.2.1 + 11) + 40 * d ≤ R.locals
            omega
        · unfold zneedC at hneed
          rw [hmode] at hneed
          try dsimp only at hneed
          have hcd : zcode M q.2.1 ∈ zGood := hneed _ (by simp)
          have hnw : va_Nw (.methodLinkNest own idx (M q.2.1).1 q.2.2.2.1) s := hK.2.1 _ (hwn _ (by
            unfold zneedN
            rw [ho1]
            dsimp only
            exact List.mem_flatMap.mpr ⟨q, hq1, by rw [if_pos hmode]; exact List.mem_singleton.mpr rfl⟩)) rfl
          refine zs_end hle hu hm hS hl (va_runSN (R := R) (host := q.2.2.2.1) (As := (st.take o.2.2.1.toNat).reverse.map (ztr b B)) (rest := (st.drop o.2.2.1.toNat).map (ztr b B)) (n := (M q.2.1).2.2.2.1) ⟨hx, hb, hml, hown, hts⟩ (hmet hcd) ⟨va_cnB (M q.2.1).2.2.2.1 hts (zGoodIn (zwsM_in hcd)) rfl rfl rfl hnw (hts _ (hneed _ (by simp))) ⟨hmh.1, hmh.2, hpar⟩ ⟨hfr, ?_⟩, hts _ (hneed _ (by simp)), trivial⟩ ⟨zPc_blind, zs_pre C0 hR hS⟩ rfl hn hl.1 hstack (lv_room (zcatsum b B _ (by simp; omega))) hdg ⟨by omega, by omega⟩) hW
          show 8 + ((M q.2.1).2.2.1 + 11) + 40 * d ≤ R.locals
          omega
    · cases hs
  · cases hs
theorem zs_callV (C : zCx p s m args meth c cc own nm nL b B L xs dC dI cA) (hok : ∀ mid, zMok M mid) (hM : zMet M l b B L xs dC dI cA d) (hfr : d + 1 ≤ R.frames) (hlo : 40 * d + 40 ≤ R.locals) (hle : n0 ≤ zn h) (hu : u0 ≤ zu h) {o : zO} {idx : Nat} (ho1 : o.1 = .invokevirtual idx) (hdg : decode cc pc = .ok (.invokevirtual idx, 3))
    (hw : ∀ w ∈ zneed M own o, w ∈ zGood) (heq : ∀ z ∈ zeqs M own o, z.1 = z.2) (hoks : ∀ q ∈ o.2.2.2, q.1 < 12 ∧ (q.2.2.1 < 2 ∨ 10 ≤ q.2.2.1) ∧ (M q.2.1).2.2.2.1 = o.2.2.1.toNat) (hs : zcallV (zcall (zP M) d) o pc ls st h = some (.inr y))
    (hc : zn y.2.2.2 - n0 ≤ R.cells) (hsl : zu y.2.2.2 - u0 ≤ R.slots)
    (hW : zWA p l e R s m args below meth c Q b B L xs dC dI cA n0 u0 nL y) : zWA p l e R s m args below meth c Q b B L xs dC dI cA n0 u0 nL (pc, ls, st, h) := by
  have C0 := C
  obtain ⟨hx, hb, hml, hown, hts, hK, -⟩ := C
  unfold zcallV at hs
  split at hs
  · rename_i a rest hdrop
    split at hs
    · rename_i hlen
      cases hf : zfind o.2.2.2 (zk h a).1 with
      | none => rw [hf] at hs; cases hs
      | some mid =>
        rw [hf, Option.bind_some] at hs
        obtain ⟨q, hq1, e1, e2⟩ := zfind_mem hf
        obtain ⟨ht, hmode, hnp⟩ := hoks q hq1
        unfold zback at hs
        cases hcall : zcall (zP M) d mid (.inr (.inr (some a)) :: (st.take o.2.2.1.toNat).reverse) h with
        | none => rw [hcall] at hs; cases hs
        | some r =>
          rw [hcall] at hs
          simp only [Option.bind_some, zgo, Option.some.injEq, Sum.inr.injEq] at hs
          subst hs
          dsimp only at hc hsl
          subst e2
          obtain ⟨hm, hmet⟩ := hM _ _ _ _ hcall
          obtain ⟨-, -, hmh, hpar, hmaxL⟩ := hok q.2.1
          intro H locs la hR hS hl
          have hR : zRep b B L xs dC dI cA h H := hR
          have hnlen : o.2.2.1.toNat ≤ st.length := by
            have h3 := congrArg List.length hdrop
            simp only [List.length_drop, List.length_cons] at h3
            omega
          have hstack : (st.map (ztr b B)) = (((st.take o.2.2.1.toNat).reverse.map (ztr b B))).reverse ++ .ref (zadr b B a) :: rest.map (ztr b B) := by
            rw [List.map_reverse, List.reverse_reverse]
            have h3 : st = st.take o.2.2.1.toNat ++ (.inr (.inr (some a)) :: rest) := by rw [← hdrop, List.take_append_drop]
            conv => lhs; rw [h3]
            rw [List.map_append]
            rfl
          have hn : ((st.take o.2.2.1.toNat).reverse.map (ztr b B)).length = (M q.2.1).2.2.2.1 := by
            rw [hnp]
            simp
            omega
          have hneed : ∀ w ∈ zneedC M own idx q, w ∈ zGood := fun w hw2 => hw w (by
            unfold zneed
            rw [ho1]
            dsimp only
            exact List.mem_flatMap.mpr ⟨q, hq1, hw2⟩)
          obtain ⟨a1, a2⟩ := hR.in (a := a) (by omega)
          have he := zws_get b B cA h a1 a2
          rw [zcell_obj (by omega)] at he
          have hrec := va_recv hK.1 hR.1 (zcl_at _ (by omega)) he
          have hrec : ∃ cell : Cell, H[zadr b B a]? = some cell ∧ cell.vm.isStatics = false ∧ s.vm.findClass (zC q.1) = some cell.cls := by rw [e1]; exact hrec
          have hloc : 8 + ((M q.2.1).2.2.1 + 11) + (zrm d (zn r.2 - zn h) (zu r.2 - zu h)).locals ≤ R.locals := by
            show 8 + ((M q.2.1).2.2.1 + 11) + 40 * d ≤ R.locals
            omega
          have hpreV : PreV s H (zC q.1) (zadr b B a) (zPc b B L xs dC dI cA (.inr (.inr (some a)) :: (st.take o.2.2.1.toNat).reverse) h) ((st.take o.2.2.1.toNat).reverse.map (ztr b B)) := ⟨zPc_blind, hrec, zs_pre C0 hR hS⟩
          have heqs : ∀ z ∈ (match q.2.2.1 with
            | 0 => [((M q.2.1).1.cls, zC q.1)]
            | 1 => [((M q.2.1).1.cls, q.2.2.2.2)]
            | k => [((M (k - 10)).1.cls, q.2.2.2.2), ((M (k - 10)).1.name, (M q.2.1).1.name), ((M (k - 10)).1.desc, (M q.2.1).1.desc)]), z.1 = z.2 := fun z hz => heq z (by
            unfold zeqs
            rw [ho1]
            dsimp only
            exact List.mem_flatMap.mpr ⟨q, hq1, hz⟩)
          unfold zneedC at hneed
          rcases (show q.2.2.1 = 0 ∨ q.2.2.1 = 1 ∨ 10 ≤ q.2.2.1 by omega) with hmo | hmo | hmo
          · rw [hmo] at hneed heqs
            try dsimp only at hneed heqs
            have hcd : zcode M q.2.1 ∈ zGood := hneed _ (by simp)
            refine zs_end hle hu hm hS hl (va_runV (R := R) (C := zC q.1) (As := (st.take o.2.2.1.toNat).reverse.map (ztr b B)) (rest := rest.map (ztr b B)) (n := (M q.2.1).2.2.2.1) ⟨hx, hb, hml, hown, hts⟩ (hmet hcd) (cwV (M q.2.1).2.2.2.1 hts (zGoodIn ?_) rfl rfl rfl ⟨heqs ((M q.2.1).1.cls, zC q.1) (List.mem_singleton.mpr rfl), hmh.1, hmh.2, hpar⟩ ⟨hfr, hloc⟩) hpreV rfl hn hl.1 hstack (lv_room (zcatsum b B _ hlen)) hdg ⟨by omega, by omega⟩) hW
            intro w hw2
            rcases List.mem_append.mp hw2 with h1 | h1
            · exact hneed w (by
                simp only [List.mem_cons, List.not_mem_nil, or_false] at h1 ⊢
                rcases h1 with h1 | h1 | h1 | h1 <;> simp [h1])
            · exact zwsM_in hcd w h1
          · rw [hmo] at hneed heqs
            try dsimp only at hneed heqs
            have hcd : zcode M q.2.1 ∈ zGood := hneed _ (by simp)
            have hyc : (M q.2.1).1.cls = q.2.2.2.2 := heqs _ (List.mem_singleton.mpr rfl)
            refine zs_end hle hu hm hS hl (va_runU (R := R) (C := zC q.1) (owner := q.2.2.2.2) (x := zxn M q) (As := (st.take o.2.2.1.toNat).reverse.map (ztr b B)) (rest := rest.map (ztr b B)) (n := (M q.2.1).2.2.2.1) ⟨hx, hb, hml, hown, hts⟩ (hmet hcd) (va_cwU (M q.2.1).2.2.2.1 hts (zGoodIn ?_) rfl rfl rfl ?_ ⟨by rw [← hyc]; exact hmh.1, by rw [← hyc]; exact hmh.2, hpar⟩ ⟨hfr, hloc⟩) hpreV rfl hn hl.1 hstack (lv_room (zcatsum b B _ hlen)) hdg ⟨by omega, by omega⟩) hW
            · intro w hw2
              rcases List.mem_append.mp hw2 with h1 | h1
              · exact hneed w (by
                  simp only [List.mem_cons, List.not_mem_nil, or_false] at h1 ⊢
                  rcases h1 with h1 | h1 | h1 | h1 | h1 <;> simp [h1] <;> simp [zxn])
              · exact zwsM_in hcd w h1
            · rw [← hyc]
              rfl
          · obtain ⟨k, hk⟩ : ∃ k, q.2.2.1 = k + 10 := ⟨q.2.2.1 - 10, by omega⟩
            rw [hk] at hneed heqs
            try dsimp only at hneed heqs
            have hcd : zcode M q.2.1 ∈ zGood := hneed _ (by simp)
            have hz1 := heqs ((M (k + 10 - 10)).1.cls, q.2.2.2.2) (by simp)
            have hz2 := heqs ((M (k + 10 - 10)).1.name, (M q.2.1).1.name) (by simp)
            have hz3 := heqs ((M (k + 10 - 10)).1.desc, (M q.2.1).1.desc) (by simp)
            dsimp only at hz1 hz2 hz3
            obtain ⟨-, -, hmh0, -⟩ := hok (k + 10 - 10)
            have hcd0 : Cond.code (⟨q.2.2.2.2, (zxn M q).name, (zxn M q).desc⟩ : MethodName) (M (k + 10 - 10)).2.1 (M (k + 10 - 10)).2.2.1 (M (k + 10 - 10)).2.2.2.2.1 ∈ zGood := by
              have h4 := hneed (zcode M (k + 10 - 10)) (by simp)
              have h5 : (⟨q.2.2.2.2, (zxn M q).name, (zxn M q).desc⟩ : MethodName) = (M (k + 10 - 10)).1 := by
                show (⟨q.2.2.2.2, (M q.2.1).1.name, (M q.2.1).1.desc⟩ : MethodName) = _
                rw [← hz1, ← hz2, ← hz3]
              rw [h5]
              exact h4
            refine zs_end hle hu hm hS hl (va_runU (R := R) (C := zC q.1) (owner := q.2.2.2.2) (x := zxn M q) (As := (st.take o.2.2.1.toNat).reverse.map (ztr b B)) (rest := rest.map (ztr b B)) (n := (M q.2.1).2.2.2.1) ⟨hx, hb, hml, hown, hts⟩ (hmet hcd) (va_cwO (M q.2.1).2.2.2.1 hts (zGoodIn ?_) rfl rfl rfl hcd0 ⟨by rw [← hz1]; exact hmh0.1, by rw [← hz1]; exact hmh0.2, hpar⟩ ⟨hfr, hloc⟩) hpreV rfl hn hl.1 hstack (lv_room (zcatsum b B _ hlen)) hdg ⟨by omega, by omega⟩) hW
            intro w hw2
            rcases List.mem_append.mp hw2 with h1 | h1
            · exact hneed w (by
                simp only [List.mem_cons, List.not_mem_nil, or_false] at h1 ⊢
                rcases h1 with h1 | h1 | h1 | h1 | h1 | h1 <;> simp [h1] <;> simp [zxn, zown])
            · exact zwsM_in hcd w h1
    · cases hs
  · cases hs
theorem zs_callI (C : zCx p s m args meth c cc own nm nL b B L xs dC dI cA) (hok : ∀ mid, zMok M mid) (hM : zMet M l b B L xs dC dI cA d) (hfr : d + 1 ≤ R.frames) (hlo : 40 * d + 40 ≤ R.locals) (hle : n0 ≤ zn h) (hu : u0 ≤ zu h) {o : zO} {idx : Nat} (ho1 : o.1 = .invokespecial idx) (hdg : decode cc pc = .ok (.invokespecial idx, 3))
    (hw : ∀ w ∈ zneed M own o, w ∈ zGood) (hoks : o.2.2.1 = -1 ∨ ∀ q ∈ o.2.2.2, ((q.2.2.1 = 4 ∧ (M q.2.1).1.name = "<init>" ∧ (M q.2.1).2.2.2.2.1 = none) ∨ (q.2.2.1 = 5 ∧ (M q.2.1).1.name ≠ "<init>")) ∧ (M q.2.1).2.2.2.1 = o.2.2.1.toNat) (hs : zcallI (zcall (zP M) d) o pc ls st h = some (.inr y))
    (hc : zn y.2.2.2 - n0 ≤ R.cells) (hsl : zu y.2.2.2 - u0 ≤ R.slots)
    (hW : zWA p l e R s m args below meth c Q b B L xs dC dI cA n0 u0 nL y) : zWA p l e R s m args below meth c Q b B L xs dC dI cA n0 u0 nL (pc, ls, st, h) := by
  have C0 := C
  obtain ⟨hx, hb, hml, hown, hts, hK, -⟩ := C
  unfold zcallI at hs
  split at hs
  · rename_i hflag
    have hneed : ∀ w ∈ ([.methodLink own idx objectInit, .instanceMethod objectInit, .code objectInit ⟨#[0xb1]⟩ 1 none] : List Cond), w ∈ zGood := fun w hw2 => hw w (by
      unfold zneed
      rw [ho1]
      dsimp only
      rw [if_pos hflag]
      exact hw2)
    split at hs
    · rename_i a rest
      split at hs
      · rename_i hlen
        simp only [zgo, Option.some.injEq, Sum.inr.injEq] at hs
        subst hs
        intro H locs la hR hS hl
        refine W.objInit hx hb hown (hts _ (hneed _ (by simp))) (hts _ (hneed _ (by simp))) (hts _ (hneed _ (by simp))) rfl (by rw [hml]; exact hl.1) (rest := rest.map (ztr b B)) rfl hdg (by omega) ?_ (hW H locs la hR hS hl)
        have h4 := zcatsum b B rest hlen
        show 2 * 0 + _ + 12 ≤ R.locals
        omega
      · cases hs
    · cases hs
  · rename_i hflag
    split at hs
    · rename_i q0 a rest hq hdrop
      have hq1 : q0 ∈ o.2.2.2 := by rw [hq]; exact List.mem_singleton.mpr rfl
      obtain ⟨hmode, hnp⟩ := (hoks.resolve_left hflag) q0 hq1
      split at hs
      · rename_i hlen
        unfold zback at hs
        cases hcall : zcall (zP M) d q0.2.1 (.inr (.inr (some a)) :: (st.take o.2.2.1.toNat).reverse) h with
        | none => rw [hcall] at hs; cases hs
        | some r =>
          rw [hcall] at hs
          simp only [Option.bind_some, zgo, Option.some.injEq, Sum.inr.injEq] at hs
          subst hs
          dsimp only at hc hsl
          obtain ⟨hm, hmet⟩ := hM _ _ _ _ hcall
          obtain ⟨-, -, hmh, hpar, hmaxL⟩ := hok q0.2.1
          intro H locs la hR hS hl
          have hR : zRep b B L xs dC dI cA h H := hR
          have hnlen : o.2.2.1.toNat ≤ st.length := by
            have h3 := congrArg List.length hdrop
            simp only [List.length_drop, List.length_cons] at h3
            omega
          have hstack : (st.map (ztr b B)) = (((st.take o.2.2.1.toNat).reverse.map (ztr b B))).reverse ++ .ref (zadr b B a) :: rest.map (ztr b B) := by
            rw [List.map_reverse, List.reverse_reverse]
            have h3 : st = st.take o.2.2.1.toNat ++ (.inr (.inr (some a)) :: rest) := by rw [← hdrop, List.take_append_drop]
            conv => lhs; rw [h3]
            rw [List.map_append]
            rfl
          have hn : ((st.take o.2.2.1.toNat).reverse.map (ztr b B)).length = (M q0.2.1).2.2.2.1 := by
            rw [hnp]
            simp
            omega
          have hneed : ∀ w ∈ zneedC M own idx q0, w ∈ zGood := fun w hw2 => hw w (by
            unfold zneed
            rw [ho1]
            dsimp only
            rw [if_neg hflag]
            exact List.mem_flatMap.mpr ⟨q0, hq1, hw2⟩)
          have hloc : 8 + ((M q0.2.1).2.2.1 + 11) + (zrm d (zn r.2 - zn h) (zu r.2 - zu h)).locals ≤ R.locals := by
            show 8 + ((M q0.2.1).2.2.1 + 11) + 40 * d ≤ R.locals
            omega
          unfold zneedC at hneed
          rcases hmode with ⟨hmo, hini, hret⟩ | ⟨hmo, hini⟩
          · rw [hmo] at hneed
            try dsimp only at hneed
            have hcd : zcode M q0.2.1 ∈ zGood := hneed _ (by simp)
            exact zs_end hle hu hm hS hl (va_runI (R := R) (As := (st.take o.2.2.1.toNat).reverse.map (ztr b B)) (rest := rest.map (ztr b B)) (n := (M q0.2.1).2.2.2.1) ⟨hx, hb, hml, hown, hts⟩ (hmet hcd) (cwI (M q0.2.1).2.2.2.1 hts (zGoodIn (zwsM_in hcd)) (by unfold zwsM zcode; rw [hret]) rfl rfl (hts _ (hneed _ (by simp))) (hts _ (hneed _ (by simp))) (hts _ (hneed _ (by simp))) hini ⟨hmh.1, hmh.2, hpar⟩ ⟨hfr, hloc⟩) ⟨zPc_blind, zs_pre C0 hR hS⟩ rfl hn hl.1 hstack (lv_room (zcatsum b B _ hlen.1)) hdg ⟨by omega, by omega⟩) hW
          · rw [hmo] at hneed
            try dsimp only at hneed
            have hcd : zcode M q0.2.1 ∈ zGood := hneed _ (by simp)
            obtain ⟨a1, a2⟩ := hR.in (a := a) (by omega)
            have he := zws_get b B cA h a1 a2
            rw [zcell_obj (by omega)] at he
            have hrec := va_recv hK.1 hR.1 (zcl_at _ hlen.2) he
            refine zs_end hle hu hm hS hl (va_runSU (R := R) (C := zC (zk h a).1) (As := (st.take o.2.2.1.toNat).reverse.map (ztr b B)) (rest := rest.map (ztr b B)) (n := (M q0.2.1).2.2.2.1) (hK.1.1 _ _ (zcl_at _ hlen.2)).2 ⟨hx, hb, hml, hown, hts⟩ (hmet hcd) (va_cwSU (M q0.2.1).2.2.2.1 hts (zGoodIn ?_) rfl rfl rfl ⟨hini, hpar⟩ ⟨hfr, hloc⟩) ⟨zPc_blind, hrec, zs_pre C0 hR hS⟩ rfl hn hl.1 hstack (lv_room (zcatsum b B _ hlen.1)) hdg ⟨by omega, by omega⟩) hW
            intro w hw2
            rcases List.mem_append.mp hw2 with h1 | h1
            · exact hneed w (by
                simp only [List.mem_cons, List.not_mem_nil, or_false] at h1 ⊢
                rcases h1 with h1 | h1 | h1 | h1 | h1 <;> simp [h1])
            · exact zwsM_in hcd w h1
      · cases hs
    · cases hs
end ZSND
end
section
/-! a step is sound, a run is sound -/
theorem zm_bind {α : Type} {q : Option α} {f : α → zT} {y : zS} (hs : q.bind f = some (.inr y)) : ∃ v, q = some v ∧ f v = some (.inr y) := by
  cases q with
  | none => cases hs
  | some v => exact ⟨v, rfl, hs⟩
theorem zm_go {pc : Nat} {ls : zL} {st : List zV} {h : zH} {y : zS} (hs : zgo pc ls st h = some (.inr y)) : y = (pc, ls, st, h) := by
  simp only [zgo, Option.some.injEq, Sum.inr.injEq] at hs
  exact hs.symm
section ZMONO
variable {cal : Nat → List zV → zH → Option zR} {pc : Nat} {ls : zL} {st : List zV} {h : zH} {y : zS} {o : zO}
theorem zm_op2 {f : Int32 → Int32 → Option Int32} (hs : zop2 f pc ls st h = some (.inr y)) : y.2.2.2 = h := by
  unfold zop2 at hs
  split at hs
  · obtain ⟨v, -, h1⟩ := zm_bind hs
    rw [zm_go h1]
  · cases hs
theorem zm_op2l {f : Int64 → Int64 → Option Int64} (hs : zop2l f pc ls st h = some (.inr y)) : y.2.2.2 = h := by
  unfold zop2l at hs
  split at hs
  · obtain ⟨v, -, h1⟩ := zm_bind hs
    rw [zm_go h1]
  · cases hs
theorem zm_op1 {f : Int32 → zV} (hs : zop1 f pc ls st h = some (.inr y)) : y.2.2.2 = h := by
  unfold zop1 at hs
  split at hs
  · rw [zm_go hs]
  · cases hs
theorem zm_push {k : Nat} {v : zV} (hs : zpush k pc ls st h v = some (.inr y)) : y.2.2.2 = h := by
  simp only [zpush, Option.some.injEq, Sum.inr.injEq] at hs
  rw [← hs]
theorem zm_load {w k i : Nat} (hs : zload w k i pc ls st h = some (.inr y)) : y.2.2.2 = h := by
  unfold zload at hs
  split at hs
  · exact zm_push hs
  · exact zm_push hs
  · exact zm_push hs
  · cases hs
theorem zm_store {w k i : Nat} (hs : zstore w k i pc ls st h = some (.inr y)) : y.2.2.2 = h := by
  unfold zstore at hs
  split at hs
  · split at hs
    · rw [zm_go hs]
    · cases hs
  · split at hs
    · rw [zm_go hs]
    · cases hs
  · split at hs
    · rw [zm_go hs]
    · cases hs
  · cases hs
theorem zm_jump {c : ClassFile.Cond} {off : Int} (hs : zjump c off pc ls st h = some (.inr y)) : y.2.2.2 = h := by
  unfold zjump at hs
  split at hs
  · split at hs <;> rw [zm_go hs]
  · cases hs
theorem zm_jump2 {c : ClassFile.Cond} {off : Int} (hs : zjump2 c off pc ls st h = some (.inr y)) : y.2.2.2 = h := by
  unfold zjump2 at hs
  split at hs
  · split at hs <;> rw [zm_go hs]
  · cases hs
theorem zm_jumpN {z : Bool} {off : Int} (hs : zjumpN z off pc ls st h = some (.inr y)) : y.2.2.2 = h := by
  unfold zjumpN at hs
  split at hs
  · split at hs <;> rw [zm_go hs]
  · cases hs
theorem zm_back {r : List zV} {q : Option zR} (hq : ∀ v, q = some v → zn h ≤ zn v.2 ∧ zu h ≤ zu v.2) (hs : zback pc ls r q = some (.inr y)) : zn h ≤ zn y.2.2.2 ∧ zu h ≤ zu y.2.2.2 := by
  unfold zback at hs
  obtain ⟨v, h1, h2⟩ := zm_bind hs
  rw [zm_go h2]
  exact hq v h1
theorem zm_callS (hc : ∀ mid as h r, cal mid as h = some r → zn h ≤ zn r.2 ∧ zu h ≤ zu r.2) (hs : zcallS cal o pc ls st h = some (.inr y)) : zn h ≤ zn y.2.2.2 ∧ zu h ≤ zu y.2.2.2 := by
  unfold zcallS at hs
  split at hs
  · split at hs
    · exact zm_back (fun v hv => hc _ _ _ _ hv) hs
    · cases hs
  · cases hs
theorem zm_callV (hc : ∀ mid as h r, cal mid as h = some r → zn h ≤ zn r.2 ∧ zu h ≤ zu r.2) (hs : zcallV cal o pc ls st h = some (.inr y)) : zn h ≤ zn y.2.2.2 ∧ zu h ≤ zu y.2.2.2 := by
  unfold zcallV at hs
  split at hs
  · split at hs
    · obtain ⟨mid, -, h1⟩ := zm_bind hs
      exact zm_back (fun v hv => hc _ _ _ _ hv) h1
    · cases hs
  · cases hs
theorem zm_callI (hc : ∀ mid as h r, cal mid as h = some r → zn h ≤ zn r.2 ∧ zu h ≤ zu r.2) (hs : zcallI cal o pc ls st h = some (.inr y)) : zn h ≤ zn y.2.2.2 ∧ zu h ≤ zu y.2.2.2 := by
  unfold zcallI at hs
  split at hs
  · split at hs
    · split at hs
      · rw [zm_go hs]
        exact ⟨Nat.le_refl _, Nat.le_refl _⟩
      · cases hs
    · cases hs
  · split at hs
    · split at hs
      · exact zm_back (fun v hv => hc _ _ _ _ hv) hs
      · cases hs
    · cases hs
theorem zm_same {k : zH} (e : k = h) : zn h ≤ zn k ∧ zu h ≤ zu k := by rw [e]; exact ⟨Nat.le_refl _, Nat.le_refl _⟩
theorem zm_ret (hs : zret o st h = some (.inr y)) : False := by
  unfold zret at hs
  split at hs
  · split at hs <;> cases hs
  · cases hs
  · cases hs
  · cases hs
  · cases hs
theorem zm_step (hc : ∀ mid as h r, cal mid as h = some r → zn h ≤ zn r.2 ∧ zu h ≤ zu r.2) {x : zS} (hs : zstp cal o x = some (.inr y)) : zn x.2.2.2 ≤ zn y.2.2.2 ∧ zu x.2.2.2 ≤ zu y.2.2.2 := by
  unfold zstp at hs
  split at hs
  all_goals first
    | exact zm_same (zm_push hs)
    | exact zm_same (zm_load hs)
    | exact zm_same (zm_store hs)
    | exact zm_same (zm_op2 hs)
    | exact zm_same (zm_op2l hs)
    | exact zm_same (zm_op1 hs)
    | exact zm_same (zm_jump hs)
    | exact zm_same (zm_jump2 hs)
    | exact zm_same (zm_jumpN hs)
    | exact zm_callV hc hs
    | exact zm_callI hc hs
    | exact (zm_ret hs).elim
    | (rw [zm_go hs]; exact ⟨Nat.le_refl _, Nat.le_refl _⟩)
    | skip
  · unfold zinc at hs
    split at hs
    · split at hs
      · rw [zm_go hs]; exact ⟨Nat.le_refl _, Nat.le_refl _⟩
      · cases hs
    · cases hs
  · unfold zlcmp at hs
    split at hs
    · rw [zm_go hs]; exact ⟨Nat.le_refl _, Nat.le_refl _⟩
    · cases hs
  · unfold zdup at hs
    split at hs
    · split at hs
      · rw [zm_go hs]; exact ⟨Nat.le_refl _, Nat.le_refl _⟩
      · cases hs
    · cases hs
  · unfold zdup2 at hs
    split at hs
    · split at hs
      · rw [zm_go hs]; exact ⟨Nat.le_refl _, Nat.le_refl _⟩
      · cases hs
    · cases hs
  · unfold zpop at hs
    split at hs
    · split at hs
      · rw [zm_go hs]; exact ⟨Nat.le_refl _, Nat.le_refl _⟩
      · cases hs
    · cases hs
  · unfold ztab at hs
    split at hs
    · split at hs
      · rw [zm_go hs]; exact ⟨Nat.le_refl _, Nat.le_refl _⟩
      · obtain ⟨v, -, h1⟩ := zm_bind hs
        rw [zm_go h1]; exact ⟨Nat.le_refl _, Nat.le_refl _⟩
    · cases hs
  · unfold zlook at hs
    split at hs
    · rw [zm_go hs]; exact ⟨Nat.le_refl _, Nat.le_refl _⟩
    · cases hs
  · unfold zget at hs
    split at hs
    · obtain ⟨v, -, h1⟩ := zm_bind hs
      split at h1 <;> (rw [zm_go h1]; exact ⟨Nat.le_refl _, Nat.le_refl _⟩)
    · cases hs
  · unfold zput at hs
    split at hs
    · obtain ⟨v, -, h1⟩ := zm_bind hs
      split at h1
      · rw [zm_go h1]; exact ⟨Nat.le_refl _, Nat.le_refl _⟩
      · cases h1
    · obtain ⟨v, -, h1⟩ := zm_bind hs
      split at h1
      · rw [zm_go h1]; exact ⟨Nat.le_refl _, Nat.le_refl _⟩
      · cases h1
    · cases hs
  · unfold zald at hs
    split at hs
    · split at hs
      · obtain ⟨v, -, h1⟩ := zm_bind hs
        rw [zm_go h1]; exact ⟨Nat.le_refl _, Nat.le_refl _⟩
      · cases hs
    · cases hs
  · unfold zast at hs
    split at hs
    · split at hs
      · obtain ⟨v, -, h1⟩ := zm_bind hs
        rw [zm_go h1]; exact ⟨Nat.le_refl _, Nat.le_refl _⟩
      · cases hs
    · cases hs
  · unfold zaald at hs
    split at hs
    · split at hs
      · obtain ⟨v, -, h1⟩ := zm_bind hs
        rw [zm_go h1]; exact ⟨Nat.le_refl _, Nat.le_refl _⟩
      · cases hs
    · cases hs
  · unfold zaast at hs
    split at hs
    · split at hs
      · obtain ⟨v, -, h1⟩ := zm_bind hs
        rw [zm_go h1]; exact ⟨Nat.le_refl _, Nat.le_refl _⟩
      · cases hs
    · cases hs
  · unfold zalen at hs
    split at hs
    · split at hs
      · rw [zm_go hs]; exact ⟨Nat.le_refl _, Nat.le_refl _⟩
      · cases hs
    · cases hs
  · unfold znew at hs
    split at hs
    · rw [zm_go hs]; exact ⟨Nat.le_succ _, Nat.le_add_right _ _⟩
    · cases hs
  · unfold znewa at hs
    split at hs
    · split at hs
      · cases hs
      · rw [zm_go hs]; exact ⟨Nat.le_succ _, Nat.le_add_right _ _⟩
    · cases hs
  · unfold znewa at hs
    split at hs
    · split at hs
      · cases hs
      · rw [zm_go hs]; exact ⟨Nat.le_succ _, Nat.le_add_right _ _⟩
    · cases hs
  · unfold zinst at hs
    split at hs
    · obtain ⟨v, -, h1⟩ := zm_bind hs
      rw [zm_go h1]; exact ⟨Nat.le_refl _, Nat.le_refl _⟩
    · cases hs
  · split at hs
    · unfold zcopy at hs
      split at hs
      · split at hs
        · rw [zm_go hs]; exact ⟨Nat.le_refl _, Nat.le_refl _⟩
        · cases hs
      · cases hs
    · exact zm_callS hc hs
  · cases hs
end ZMONO
theorem zl_bind {α : Type} {q : Option α} {f : α → zT} {r : zR} (hs : q.bind f = some (.inl r)) : ∃ v, f v = some (.inl r) := by
  cases q with
  | none => cases hs
  | some v => exact ⟨v, hs⟩
theorem zl_go {pc : Nat} {ls : zL} {st : List zV} {h : zH} {r : zR} (hs : zgo pc ls st h = some (.inl r)) : False := by
  simp [zgo] at hs
theorem zm_end {cal : Nat → List zV → zH → Option zR} {o : zO} {x : zS} {r : zR} (hs : zstp cal o x = some (.inl r)) : zret o x.2.2.1 x.2.2.2 = some (.inl r) := by
  unfold zstp at hs
  split at hs
  all_goals first
    | exact hs
    | exact (zl_go hs).elim
    | (exfalso; unfold zpush at hs; cases hs; done)
    | (exfalso; unfold zload at hs; split at hs <;> first | (unfold zpush at hs; cases hs; done) | cases hs; done)
    | (exfalso; unfold zstore at hs; split at hs <;> first | (split at hs <;> first | exact zl_go hs | cases hs) | cases hs)
    | (exfalso; unfold zop2 at hs; split at hs <;> first | (obtain ⟨_, h1⟩ := zl_bind hs; exact zl_go h1) | cases hs)
    | (exfalso; unfold zop2l at hs; split at hs <;> first | (obtain ⟨_, h1⟩ := zl_bind hs; exact zl_go h1) | cases hs)
    | (exfalso; unfold zop1 at hs; split at hs <;> first | exact zl_go hs | cases hs)
    | (exfalso; unfold zjump at hs; split at hs <;> first | (split at hs <;> exact zl_go hs) | cases hs)
    | (exfalso; unfold zjump2 at hs; split at hs <;> first | (split at hs <;> exact zl_go hs) | cases hs)
    | (exfalso; unfold zjumpN at hs; split at hs <;> first | (split at hs <;> exact zl_go hs) | cases hs)
    | (exfalso; unfold zinc at hs; split at hs <;> first | (split at hs <;> first | exact zl_go hs | cases hs) | cases hs)
    | (exfalso; unfold zlcmp at hs; split at hs <;> first | exact zl_go hs | cases hs)
    | (exfalso; unfold zdup at hs; split at hs <;> first | (split at hs <;> first | exact zl_go hs | cases hs) | cases hs)
    | (exfalso; unfold zdup2 at hs; split at hs <;> first | (split at hs <;> first | exact zl_go hs | cases hs) | cases hs)
    | (exfalso; unfold zpop at hs; split at hs <;> first | (split at hs <;> first | exact zl_go hs | cases hs) | cases hs)
    | (exfalso; unfold ztab at hs; split at hs <;> first | (split at hs <;> first | exact zl_go hs | (obtain ⟨_, h1⟩ := zl_bind hs; exact zl_go h1)) | cases hs)
    | (exfalso; unfold zlook at hs; split at hs <;> first | exact zl_go hs | cases hs)
    | (exfalso; unfold zget at hs; split at hs <;> first | (obtain ⟨_, h1⟩ := zl_bind hs; split at h1 <;> exact zl_go h1) | cases hs)
    | (exfalso; unfold zput at hs; split at hs <;> first | (obtain ⟨_, h1⟩ := zl_bind hs; split at h1 <;> first | exact zl_go h1 | cases h1) | cases hs)
    | (exfalso; unfold zald at hs; split at hs <;> first | (split at hs <;> first | (obtain ⟨_, h1⟩ := zl_bind hs; exact zl_go h1) | cases hs) | cases hs)
    | (exfalso; unfold zast at hs; split at hs <;> first | (split at hs <;> first | (obtain ⟨_, h1⟩ := zl_bind hs; exact zl_go h1) | cases hs) | cases hs)
    | (exfalso; unfold zaald at hs; split at hs <;> first | (split at hs <;> first | (obtain ⟨_, h1⟩ := zl_bind hs; exact zl_go h1) | cases hs) | cases hs)
    | (exfalso; unfold zaast at hs; split at hs <;> first | (split at hs <;> first | (obtain ⟨_, h1⟩ := zl_bind hs; exact zl_go h1) | cases hs) | cases hs)
    | (exfalso; unfold zalen at hs; split at hs <;> first | (split at hs <;> first | exact zl_go hs | cases hs) | cases hs)
    | (exfalso; unfold znew at hs; split at hs <;> first | exact zl_go hs | cases hs)
    | (exfalso; unfold znewa at hs; split at hs <;> first | (split at hs <;> first | exact zl_go hs | cases hs) | cases hs)
    | (exfalso; unfold zinst at hs; split at hs <;> first | (obtain ⟨_, h1⟩ := zl_bind hs; exact zl_go h1) | cases hs)
    | (exfalso; unfold zcallV zback at hs; split at hs <;> first | (split at hs <;> first | (obtain ⟨_, h1⟩ := zl_bind hs; obtain ⟨_, h2⟩ := zl_bind h1; exact zl_go h2) | cases hs) | cases hs)
    | (exfalso; unfold zcallI zback at hs; split at hs <;> (split at hs <;> first | (split at hs <;> first | exact zl_go hs | (obtain ⟨_, h1⟩ := zl_bind hs; exact zl_go h1) | cases hs) | cases hs))
    | (exfalso; split at hs; (unfold zcopy at hs; split at hs <;> first | (split at hs <;> first | exact zl_go hs | cases hs) | cases hs); (unfold zcallS zback at hs; split at hs <;> first | (split at hs <;> first | (obtain ⟨_, h1⟩ := zl_bind hs; exact zl_go h1) | cases hs) | cases hs))
    | cases hs
theorem zlook_in : ∀ (ps : List (Int × Int)) (d z : Int), Op.lookupswitch.offset ps d z = d ∨ ∃ q ∈ ps, Op.lookupswitch.offset ps d z = q.2
  | [], d, z => Or.inl (by simp [Op.lookupswitch.offset])
  | (a, o) :: r, d, z => by
    rw [Op.lookupswitch.offset_cons]
    split
    · exact Or.inr ⟨(a, o), List.mem_cons_self, rfl⟩
    · rcases zlook_in r d z with h | ⟨q, h1, h2⟩
      · exact Or.inl h
      · exact Or.inr ⟨q, List.mem_cons_of_mem _ h1, h2⟩
section ZSTEP
variable {p : Program} {l : Launch} {e : Env} {R : Room} {s : State} {m : MethodId} {args : Array Value} {below : List Frame} {meth : Method} {c : Code} {Q : State → Prop} {cc : ByteArray} {own nm : String} {nL b B L n0 u0 d : Nat} {xs : Nat → Int32} {dC : Nat → ClassId} {dI : Nat → Nat → Nat} {cA : Nat → ClassId} {M : Nat → zQ}
variable {pc : Nat} {ls : zL} {st : List zV} {h : zH} {y : zS}
set_option maxHeartbeats 4000000 in
theorem zs_step (C : zCx p s m args meth c cc own nm nL b B L xs dC dI cA) (hok : ∀ mid, zMok M mid) (hM : zMet M l b B L xs dC dI cA d) (hfr : d + 1 ≤ R.frames) (hlo : 40 * d + 40 ≤ R.locals) (hn0 : s.heap.size + 1 = B + n0) (hle : n0 ≤ zn h) (hu : u0 ≤ zu h) {ret : Option FieldType} {tab : List (Nat × zO)} (hT : zTok M own nm cc ret tab) {o : zO} (ho : (pc, o) ∈ tab) (hs : zstp (zcall (zP M) d) o (pc, ls, st, h) = some (.inr y))
    (hc : zn y.2.2.2 - n0 ≤ R.cells) (hsl : zu y.2.2.2 - u0 ≤ R.slots)
    (hW : zWA p l e R s m args below meth c Q b B L xs dC dI cA n0 u0 nL y) : zWA p l e R s m args below meth c Q b B L xs dC dI cA n0 u0 nL (pc, ls, st, h) := by
  obtain ⟨hdg, hw, hwn, heq, hoks⟩ := hT _ ho
  have C0 := C
  obtain ⟨hx, hb, hml, hown, hts, hK, -⟩ := C
  obtain ⟨i, len, k, tb⟩ := o
  dsimp only at hdg hw hwn heq hoks
  unfold zstp at hs
  cases i
  case iconst n => exact zs_push hs (fun H locs la ce sl r K => lv_iconst hx hb hdg rfl K) hW
  case bipush n => exact zs_push hs (fun H locs la ce sl r K => lv_bipush hx hb hdg rfl K) hW
  case sipush n => exact zs_push hs (fun H locs la ce sl r K => lv_sipush hx hb hdg rfl K) hW
  case lconst n => exact zs_push hs (fun H locs la ce sl r K => lv_lconst hx hb hdg rfl K) hW
  case ldc n => exact zs_push hs (fun H locs la ce sl r K => lv_ldc hx hb hown (hts _ (hw _ (List.mem_singleton.mpr rfl))) hdg K) hW
  case ldc_w n => exact zs_push hs (fun H locs la ce sl r K => lv_ldcw hx hb hown (hts _ (hw _ (List.mem_singleton.mpr rfl))) hdg K) hW
  case ldc2_w n => exact zs_push hs (fun H locs la ce sl r K => lv_ldc2 hx hb hown (hts _ (hw _ (List.mem_singleton.mpr rfl))) hdg K) hW
  case aconst_null => exact zs_push hs (fun H locs la ce sl r K => lv_null hx hb hdg K) hW
  case iload_n n => exact zs_load hs (fun _ v H locs la ce sl r hl K => lv_iload_n hx hb hdg rfl hl K) (fun z => absurd z (by decide)) (fun z => absurd z (by decide)) hW
  case iload n => exact zs_load hs (fun _ v H locs la ce sl r hl K => lv_iload hx hb hdg hl K) (fun z => absurd z (by decide)) (fun z => absurd z (by decide)) hW
  case lload_n n => exact zs_load hs (fun z => absurd z (by decide)) (fun _ v H locs la ce sl r hl K => lv_lload_n hx hb hdg rfl hl K) (fun z => absurd z (by decide)) hW
  case lload n => exact zs_load hs (fun z => absurd z (by decide)) (fun _ v H locs la ce sl r hl K => lv_lload hx hb hdg hl K) (fun z => absurd z (by decide)) hW
  case aload_n n => exact zs_load hs (fun z => absurd z (by decide)) (fun z => absurd z (by decide)) (fun _ v H locs la ce sl r hl K => by
    cases v with
    | none => exact lv_aload_nN hx hb hdg rfl hl K
    | some v => exact lv_aload_n hx hb hdg rfl hl K) hW
  case aload n => exact zs_load hs (fun z => absurd z (by decide)) (fun z => absurd z (by decide)) (fun _ v H locs la ce sl r hl K => by
    cases v with
    | none => exact lv_aloadN hx hb hdg hl K
    | some v => exact lv_aload hx hb hdg hl K) hW
  case istore_n n => exact zs_store hs (fun _ v H locs la ce sl r lv hl hi K => lv_istore_n hx hb hdg rfl hl hi rfl K) (fun z => absurd z (by decide)) (fun z => absurd z (by decide)) hW
  case istore n => exact zs_store hs (fun _ v H locs la ce sl r lv hl hi K => lv_istore hx hb hdg hl hi rfl K) (fun z => absurd z (by decide)) (fun z => absurd z (by decide)) hW
  case lstore_n n => exact zs_store hs (fun z => absurd z (by decide)) (fun _ v H locs la ce sl r lv hl hi K => lv_lstore_n hx hb hdg rfl hl hi rfl K) (fun z => absurd z (by decide)) hW
  case lstore n => exact zs_store hs (fun z => absurd z (by decide)) (fun _ v H locs la ce sl r lv hl hi K => lv_lstore hx hb hdg hl hi rfl K) (fun z => absurd z (by decide)) hW
  case astore_n n => exact zs_store hs (fun z => absurd z (by decide)) (fun z => absurd z (by decide)) (fun _ v H locs la ce sl r lv hl hi K => by
    cases v with
    | none => exact lv_astore_nN hx hb hdg rfl hl hi rfl K
    | some v => exact lv_astore_n hx hb hdg rfl hl hi rfl K) hW
  case astore n => exact zs_store hs (fun z => absurd z (by decide)) (fun z => absurd z (by decide)) (fun _ v H locs la ce sl r lv hl hi K => by
    cases v with
    | none => exact lv_astoreN hx hb hdg hl hi rfl K
    | some v => exact lv_astore hx hb hdg hl hi rfl K) hW
  case iinc i n => exact zs_inc hx hb hdg hs hW
  case iadd => exact zs_op2 hs (fun u v w hf H locs la ce sl r K => by cases hf; exact lv_iadd hx hb hdg K) hW
  case isub => exact zs_op2 hs (fun u v w hf H locs la ce sl r K => by cases hf; exact lv_isub hx hb hdg K) hW
  case imul => exact zs_op2 hs (fun u v w hf H locs la ce sl r K => by cases hf; exact lv_imul hx hb hdg K) hW
  case iand => exact zs_op2 hs (fun u v w hf H locs la ce sl r K => by cases hf; exact lv_iand hx hb hdg K) hW
  case ior => exact zs_op2 hs (fun u v w hf H locs la ce sl r K => by cases hf; exact lv_ior hx hb hdg K) hW
  case ixor => exact zs_op2 hs (fun u v w hf H locs la ce sl r K => by cases hf; exact lv_ixor hx hb hdg K) hW
  case ishl => exact zs_op2 hs (fun u v w hf H locs la ce sl r K => by cases hf; exact lv_ishl hx hb hdg K) hW
  case ishr => exact zs_op2 hs (fun u v w hf H locs la ce sl r K => by cases hf; exact lv_ishr hx hb hdg K) hW
  case iushr => exact zs_op2 hs (fun u v w hf H locs la ce sl r K => by cases hf; exact lv_iushr hx hb hdg rfl K) hW
  case idiv => exact zs_op2 hs (fun u v w hf H locs la ce sl r K => by
    split at hf
    · cases hf
    · rename_i hz
      cases hf
      exact lv_idiv hx hb hdg hz K) hW
  case irem => exact zs_op2 hs (fun u v w hf H locs la ce sl r K => by
    split at hf
    · cases hf
    · rename_i hz
      cases hf
      exact lv_irem hx hb hdg hz K) hW
  case ineg => exact zs_op1 hs (fun u H locs la ce sl r K => lv_ineg hx hb hdg K) hW
  case i2l => exact zs_op1 hs (fun u H locs la ce sl r K => lv_i2l hx hb hdg rfl K) hW
  case i2b => exact zs_op1 hs (fun u H locs la ce sl r K => lv_i2b hx hb hdg rfl K) hW
  case i2s => exact zs_op1 hs (fun u H locs la ce sl r K => lv_i2s hx hb hdg rfl K) hW
  case ladd => exact zs_op2l hs (fun u v w hf H locs la ce sl r K => by cases hf; exact lv_ladd hx hb hdg K) hW
  case lsub => exact zs_op2l hs (fun u v w hf H locs la ce sl r K => by cases hf; exact lv_lsub hx hb hdg K) hW
  case lmul => exact zs_op2l hs (fun u v w hf H locs la ce sl r K => by cases hf; exact lv_lmul hx hb hdg K) hW
  case ldiv => exact zs_op2l hs (fun u v w hf H locs la ce sl r K => by
    split at hf
    · cases hf
    · rename_i hz
      cases hf
      exact lv_ldiv hx hb hdg hz K) hW
  case lrem => exact zs_op2l hs (fun u v w hf H locs la ce sl r K => by
    split at hf
    · cases hf
    · rename_i hz
      cases hf
      exact lv_lrem hx hb hdg hz K) hW
  case lcmp => exact zs_lcmp hx hb hdg hs hW
  case dup => exact zs_dup hx hb hdg hs hW
  case dup2 => exact zs_dup2 hx hb hdg hs hW
  case pop => exact zs_pop hx hb hdg hs hW
  case ifCond cd off => exact zs_jump hx hb hdg (of_decide_eq_true hoks) hs hW
  case if_icmp cd off => exact zs_jump2 hx hb hdg (of_decide_eq_true hoks) hs hW
  case ifnull off => exact zs_null hx hb hdg (of_decide_eq_true hoks) hs hW
  case ifnonnull off => exact zs_nonnull hx hb hdg (of_decide_eq_true hoks) hs hW
  case goto off => exact zs_goto hx hb hdg (of_decide_eq_true hoks) hs hW
  case tableswitch dd lo hi offs =>
    simp only [zoks, Bool.and_eq_true, List.all_eq_true] at hoks
    exact zs_tab hx hb hdg (of_decide_eq_true hoks.1) (fun off h2 => of_decide_eq_true (hoks.2 off (Array.mem_toList_iff.mpr h2))) hs hW
  case lookupswitch dd ps =>
    unfold zoks at hoks
    rw [Bool.and_eq_true, Bool.and_eq_true] at hoks
    obtain ⟨⟨k1, k2⟩, k3⟩ := hoks
    rw [List.all_eq_true] at k3
    refine zs_look hx hb hdg k1 (fun z => ?_) hs hW
    rcases zlook_in ps.toList dd z with q | ⟨q, q1, q2⟩
    · rw [q]
      exact of_decide_eq_true k2
    · rw [q2]
      exact of_decide_eq_true (k3 q q1)
  case getfield n =>
    unfold zoks at hoks
    rw [List.all_eq_true] at hoks
    refine zs_get C0 hdg (fun q hq => ?_) hs hW
    have h1 := hoks q hq
    simp only [Bool.and_eq_true, decide_eq_true_eq, beq_iff_eq] at h1
    have hF : ∀ w ∈ zneedF own n q, w ∈ zGood := fun w hw2 => hw w (List.mem_flatMap.mpr ⟨q, hq, hw2⟩)
    refine ⟨⟨h1.1.1, h1.1.2, zref q, hF _ List.mem_cons_self, ?_⟩, ?_⟩
    · unfold zref
      split
      · exact Or.inl rfl
      · rename_i hz
        refine Or.inr (hF _ (List.mem_cons_of_mem _ ?_))
        rw [if_neg hz]
        exact List.mem_singleton.mpr rfl
    · have h2 := h1.2
      constructor
      · intro h3
        rw [decide_eq_true h3] at h2
        simpa using h2.symm
      · intro h3
        rw [h3] at h2
        simpa using h2
  case putfield n =>
    unfold zoks at hoks
    rw [List.all_eq_true] at hoks
    refine zs_put C0 hn0 hle hdg (fun q hq => ?_) hs hW
    have h1 := hoks q hq
    simp only [Bool.and_eq_true, Bool.or_eq_true, decide_eq_true_eq, beq_iff_eq, Bool.not_eq_true'] at h1
    obtain ⟨⟨⟨⟨⟨t1, t2⟩, t3⟩, t4⟩, t5⟩, t6⟩ := h1
    have hF : ∀ w ∈ zneedF own n q, w ∈ zGood := fun w hw2 => hw w (List.mem_flatMap.mpr ⟨q, hq, hw2⟩)
    refine ⟨⟨t1, t2, zref q, hF _ List.mem_cons_self, ?_⟩, ?_, fun z => t4.resolve_left (fun w => w z), fun z => t5.resolve_left (fun w => w z), fun z => ?_⟩
    · unfold zref
      split
      · exact Or.inl rfl
      · rename_i hz
        refine Or.inr (hF _ (List.mem_cons_of_mem _ ?_))
        rw [if_neg hz]
        exact List.mem_singleton.mpr rfl
    · cases hz : (zF q.1 q.2.1).2.2.2 with
      | false => exact Or.inl rfl
      | true =>
        refine Or.inr ⟨rfl, t3.resolve_left (fun w => by rw [hz] at w; cases w), heq ((zF q.1 q.2.1).1, own) (List.mem_flatMap.mpr ⟨q, hq, ?_⟩)⟩
        rw [if_pos hz]
        exact List.mem_singleton.mpr rfl
    · have h3 := t6.resolve_left (fun w => w z)
      cases hz : zTy q.1 q.2.1 <;> rw [hz] at h3 <;> simp [zokT, zisI] at h3
      · exact Or.inl ⟨_, rfl⟩
      · exact Or.inr ⟨_, rfl⟩
  case iaload => exact zs_ald C0 hdg hs hW
  case iastore => exact zs_ast C0 hn0 hle hdg hs hW
  case aaload => exact zs_aald C0 hdg hs hW
  case aastore => exact zs_aast C0 hn0 hle hdg hs hW
  case arraylength => exact zs_alen C0 hdg hs hW
  case new n =>
    unfold zoks at hoks
    rw [List.all_eq_true] at hoks
    refine zs_new C0 hn0 hle hu hdg (fun q hq => ?_) hs hc hsl hW
    have h1 := hoks q hq
    simp only [Bool.and_eq_true, decide_eq_true_eq] at h1
    have hF : ∀ w ∈ ([.classLink own n (zC q.1), .instantiable (zC q.1) (zNF q.1), .initialized (zC q.1)] : List Cond), w ∈ zGood := fun w hw2 => hw w (List.mem_flatMap.mpr ⟨q, hq, hw2⟩)
    exact ⟨h1.1, h1.2, hF _ (by simp), hF _ (by simp), hF _ (by simp)⟩
  case newarray a =>
    cases a
    case int => exact zs_newa C0 hn0 hle hu hdg (hw _ (List.mem_singleton.mpr rfl)) hs hc hsl hW
    all_goals cases hs
  case anewarray n =>
    unfold zoks at hoks
    simp only [Bool.and_eq_true, decide_eq_true_eq] at hoks
    exact zs_anew C0 hn0 hle hu hoks.1 hoks.2 hdg (hw _ (List.mem_singleton.mpr rfl)) (hwn _ (List.mem_singleton.mpr rfl)) hs hc hsl hW
  case instanceof n =>
    unfold zoks at hoks
    rw [List.all_eq_true] at hoks
    cases tb with
    | nil =>
      exfalso
      have hs : zinst (.instanceof n, len, k, []) pc ls st h = some (.inr y) := hs
      unfold zinst at hs
      split at hs
      · simp [zfind] at hs
      · cases hs
    | cons q0 tb =>
      refine zs_inst (nm2 := q0.2.2.2.1) C0 hdg (hw _ (List.mem_map.mpr ⟨q0, List.mem_cons_self, rfl⟩)) (fun q hq => ?_) hs hW
      have h1 := hoks q hq
      rw [Bool.and_eq_true, Bool.and_eq_true, Bool.and_eq_true, List.all_eq_true] at h1
      obtain ⟨⟨⟨t1, t2⟩, t3⟩, t4⟩ := h1
      have t5 : q0.2.2.2.1 = q.2.2.2.1 := of_decide_eq_true (t4 q0 List.mem_cons_self)
      have t2 : q.2.2.1 < 5 := of_decide_eq_true t2
      rw [t5]
      refine ⟨of_decide_eq_true t1, ?_⟩
      have he : ∀ z ∈ (match q.2.2.1 with
        | 0 => [(zC q.1, q.2.2.2.1)]
        | 2 => [(zC q.1, RX8), (q.2.2.2.1, RX5)]
        | 3 => [(zC q.1, RX8), (q.2.2.2.1, RX0)]
        | 4 => [(zC q.1, RX0), (q.2.2.2.1, RX5)]
        | _ => []), z.1 = z.2 := fun z hz => heq z (List.mem_flatMap.mpr ⟨q, hq, hz⟩)
      rcases (show q.2.2.1 = 0 ∨ q.2.2.1 = 1 ∨ q.2.2.1 = 2 ∨ q.2.2.1 = 3 ∨ q.2.2.1 = 4 by omega) with z | z | z | z | z
      · rw [z] at he t3
        exact Or.inl ⟨of_decide_eq_true t3, Or.inl (he (zC q.1, q.2.2.2.1) (by simp))⟩
      · rw [z] at t3
        refine Or.inl ⟨of_decide_eq_true t3, Or.inr (hwn _ (List.mem_flatMap.mpr ⟨q, hq, ?_⟩))⟩
        rw [if_pos z]
        exact List.mem_singleton.mpr rfl
      · rw [z] at he t3
        exact Or.inr ⟨of_decide_eq_true t3, Or.inl ⟨he (zC q.1, RX8) (by simp), he (q.2.2.2.1, RX5) (by simp)⟩⟩
      · rw [z] at he t3
        exact Or.inr ⟨of_decide_eq_true t3, Or.inr (Or.inl ⟨he (zC q.1, RX8) (by simp), he (q.2.2.2.1, RX0) (by simp)⟩)⟩
      · rw [z] at he t3
        exact Or.inr ⟨of_decide_eq_true t3, Or.inr (Or.inr ⟨he (zC q.1, RX0) (by simp), he (q.2.2.2.1, RX5) (by simp)⟩)⟩
  case invokestatic n =>
    dsimp only at hs
    split at hs
    · rename_i hf
      have hneed : ∀ w ∈ ([.methodLink own n arraycopyName, .native arraycopyName, .static arraycopyName, .initialized "java/lang/System"] : List Cond), w ∈ zGood := fun w hw2 => hw w (by
        unfold zneed
        dsimp only
        rw [if_pos hf]
        exact hw2)
      exact zs_copy C0 hn0 hle hdg (hneed _ (by simp)) (hneed _ (by simp)) (hneed _ (by simp)) (hneed _ (by simp)) (by omega) (by omega) hs hW
    · rename_i hf
      unfold zoks at hoks
      rw [Bool.or_eq_true, List.all_eq_true] at hoks
      refine zs_callS C0 hok hM hfr hlo hle hu rfl hf hdg hw hwn (fun q hq => ?_) hs hc hsl hW
      have h1 := (hoks.resolve_left (fun z => hf (of_decide_eq_true z))) q hq
      simp only [Bool.and_eq_true, Bool.or_eq_true, decide_eq_true_eq] at h1
      exact h1
  case invokevirtual n =>
    unfold zoks at hoks
    rw [List.all_eq_true] at hoks
    refine zs_callV C0 hok hM hfr hlo hle hu rfl hdg hw heq (fun q hq => ?_) hs hc hsl hW
    have h1 := hoks q hq
    simp only [Bool.and_eq_true, Bool.or_eq_true, decide_eq_true_eq] at h1
    exact ⟨h1.1.1, h1.1.2, h1.2⟩
  case invokespecial n =>
    unfold zoks at hoks
    rw [Bool.or_eq_true, List.all_eq_true] at hoks
    refine zs_callI C0 hok hM hfr hlo hle hu rfl hdg hw ?_ hs hc hsl hW
    rcases hoks with hk | hk
    · exact Or.inl (of_decide_eq_true hk)
    · refine Or.inr fun q hq => ?_
      have h1 := hk q hq
      rw [Bool.and_eq_true] at h1
      refine ⟨?_, of_decide_eq_true h1.2⟩
      have h2 := h1.1
      split at h2
      · rename_i hz
        simp only [Bool.and_eq_true, decide_eq_true_eq] at h2
        exact Or.inl ⟨hz, h2⟩
      · simp only [Bool.and_eq_true, decide_eq_true_eq] at h2
        exact Or.inr h2
  case ireturn => exact (zm_ret hs).elim
  case lreturn => exact (zm_ret hs).elim
  case areturn => exact (zm_ret hs).elim
  case return_ => exact (zm_ret hs).elim
  all_goals cases hs
end ZSTEP
end
section
/-! a run of a method is sound: contracts out of answers -/
theorem zex_mono {cal : Nat → List zV → zH → Option zR} {cd : Nat → Option zO} (hc : ∀ mid as h r, cal mid as h = some r → zn h ≤ zn r.2 ∧ zu h ≤ zu r.2) : ∀ (n : Nat) (x : zS) (r : zR), zex cal cd n x = some r → zn x.2.2.2 ≤ zn r.2 ∧ zu x.2.2.2 ≤ zu r.2
  | 0, _, _, h => by simp [zex] at h
  | n + 1, x, r, h => by
    simp only [zex] at h
    cases hs : (cd x.1).bind fun o => zstp cal o x with
    | none => rw [hs] at h; cases h
    | some w =>
      rw [hs] at h
      cases ho : cd x.1 with
      | none => rw [ho] at hs; cases hs
      | some o =>
        rw [ho, Option.bind_some] at hs
        cases w with
        | inl q =>
          cases h
          have h1 := zm_end hs
          unfold zret at h1
          split at h1
          · split at h1
            · cases h1
            · cases h1
              exact ⟨Nat.le_refl _, Nat.le_refl _⟩
          · cases h1
            exact ⟨Nat.le_refl _, Nat.le_refl _⟩
          · cases h1
            exact ⟨Nat.le_refl _, Nat.le_refl _⟩
          · cases h1
            exact ⟨Nat.le_refl _, Nat.le_refl _⟩
          · cases h1
        | inr y =>
          have h1 := zm_step hc hs
          have h2 := zex_mono hc n y r h
          omega
theorem zlsA_len (b B : Nat) : ∀ as : List zV, (lg_sl (as.map (ztr b B))).length = (zlsA as).length
  | [] => rfl
  | v :: as => by
    have ih := zlsA_len b B as
    have hc := ztr_cat b B v
    simp only [lg_sl, List.map_cons, List.flatMap_cons, List.length_append, zlsA] at ih ⊢
    by_cases hv : zlong v = true
    · rw [if_pos hv, if_pos (hc.mpr hv)]
      simp only [List.length_cons, List.length_nil]
      omega
    · rw [if_neg hv, if_neg (fun z => hv (hc.mp z))]
      simp only [List.length_cons, List.length_nil]
      omega
theorem zlsA_get (b B : Nat) : ∀ (as : List zV) (i : Nat) (v : zV), (zlsA as)[i]? = some (some v) → (lg_sl (as.map (ztr b B)))[i]? = some (.val (ztr b B v))
  | [], i, v, h => by simp [zlsA] at h
  | w :: as, i, v, h => by
    have hc := ztr_cat b B w
    simp only [lg_sl, List.map_cons, List.flatMap_cons, zlsA] at h ⊢
    by_cases hv : zlong w = true
    · rw [if_pos hv] at h
      rw [if_pos (hc.mpr hv)]
      match i, h with
      | 0, h =>
        simp at h
        simp [h]
      | 1, h => simp at h
      | i + 2, h =>
        simp at h
        have := zlsA_get b B as i v h
        simpa [lg_sl] using this
    · rw [if_neg hv] at h
      rw [if_neg (fun z => hv (hc.mp z))]
      match i, h with
      | 0, h =>
        simp at h
        simp [h]
      | i + 1, h =>
        simp at h
        have := zlsA_get b B as i v h
        simpa [lg_sl] using this
theorem zLV_entry (b B : Nat) (as : List zV) {n : Nat} (h : (zlsA as).length ≤ n) : zLV b B ((lg_sl (as.map (ztr b B)) ++ List.replicate (n - (lg_sl (as.map (ztr b B))).length) Slot.unset).toArray) n (zls as n) := by
  have h1 := lv_entry (as.map (ztr b B)) (n := n) (by rw [zlsA_len]; exact h)
  refine ⟨h1.1, h1.2.1, ?_, fun i v hi => ?_⟩
  · unfold zls
    simp
    omega
  · unfold zls at hi
    rcases Nat.lt_or_ge i (zlsA as).length with q | q
    · rw [List.getElem?_append_left q] at hi
      have h2 := zlsA_get b B as i v hi
      rw [List.getElem?_toArray, List.getElem?_append_left (by rw [zlsA_len]; exact q)]
      exact h2
    · rw [List.getElem?_append_right q] at hi
      have h3 : i - (zlsA as).length < n - (zlsA as).length := by
        have := (List.getElem?_eq_some_iff.mp hi).1
        simpa using this
      rw [List.getElem?_replicate, if_pos h3] at hi
      cases hi
section ZRUN
variable {p : Program} {l : Launch} {e : Env} {R : Room} {s : State} {m : MethodId} {args : Array Value} {below : List Frame} {meth : Method} {c : Code} {cc : ByteArray} {own nm : String} {nL b B L n0 u0 d : Nat} {xs : Nat → Int32} {dC : Nat → ClassId} {dI : Nat → Nat → Nat} {cA : Nat → ClassId} {M : Nat → zQ}
theorem zs_ret {pc : Nat} {ls : zL} {st : List zV} {h : zH} (C : zCx p s m args meth c cc own nm nL b B L xs dC dI cA) {ret : Option FieldType} {tab : List (Nat × zO)} (hT : zTok M own nm cc ret tab) (hret : meth.sig.returnType = ret) {o : zO} (ho : (pc, o) ∈ tab) {r : zR} (hs : zret o st h = some (.inl r)) : zWA p l e R s m args below meth c (MQ below (zQc b B L xs dC dI cA r) args s (zn r.2 - n0) (zu r.2 - u0) (fun q => B ≤ q)) b B L xs dC dI cA n0 u0 nL (pc, ls, st, h) := by
  obtain ⟨hdg, -, -, -, hoks⟩ := hT _ ho
  obtain ⟨hx, hb, -, -, -, -, -, -, -, hlocks, -⟩ := C
  obtain ⟨i, len, k, tb⟩ := o
  dsimp only at hdg hoks
  unfold zret at hs
  split at hs
  · rename_i v hi
    dsimp only at hi
    subst hi
    split at hs
    · cases hs
    · rename_i hv
      cases hs
      intro H locs la hR hS hl
      simp only [zoks, Bool.or_eq_true, Bool.and_eq_true, decide_eq_true_eq] at hoks
      rcases hoks with ⟨h1, h2⟩ | ⟨h1, h2⟩
      · exact W.iret hx hb (hret.trans h2) (fun t ht hW => ⟨rfl, by rw [ht]; exact hR, hS.F ht⟩) hS.2.2 hdg hlocks
      · have hv2 : v = 0 ∨ v = 1 := by
          by_cases q : v = 0 ∨ v = 1
          · exact q
          · exact absurd ⟨h1, q⟩ hv
        exact W.zret hx hb (hret.trans h2) (by rcases hv2 with rfl | rfl <;> decide) (fun t ht hW => ⟨rfl, by rw [ht]; exact hR, hS.F ht⟩) hS.2.2 hdg hlocks
  · rename_i v hi
    dsimp only at hi
    subst hi
    cases hs
    intro H locs la hR hS hl
    exact W.lret hx hb (hret.trans (of_decide_eq_true hoks)) (fun t ht hW => ⟨rfl, by rw [ht]; exact hR, hS.F ht⟩) hS.2.2 hdg hlocks
  · rename_i v hi
    dsimp only at hi
    subst hi
    cases hs
    intro H locs la hR hS hl
    unfold zoks at hoks
    dsimp only at hoks
    have hrt : ∃ rt, ret = some rt ∧ ((∃ n, rt = .object n) ∨ ∃ t, rt = .array t) := by
      split at hoks
      · exact ⟨_, rfl, Or.inl ⟨_, rfl⟩⟩
      · exact ⟨_, rfl, Or.inr ⟨_, rfl⟩⟩
      · cases hoks
    obtain ⟨rt, h2, h3⟩ := hrt
    exact W.aret hx hb (hret.trans h2) h3 (by cases v with
      | none => exact Or.inl rfl
      | some v => exact Or.inr ⟨_, rfl⟩) (fun t ht hW => ⟨rfl, by rw [ht]; exact hR, hS.F ht⟩) hS.2.2 hdg hlocks
  · rename_i hi
    dsimp only at hi
    subst hi
    cases hs
    intro H locs la hR hS hl
    exact W.vret hx hb (hret.trans (of_decide_eq_true hoks)) (fun t ht hW => ⟨rfl, by rw [ht]; exact hR, hS.F ht⟩) hS.2.2 hdg hlocks
  · cases hs
theorem zs_exec {Q : State → Prop} (C : zCx p s m args meth c cc own nm nL b B L xs dC dI cA) (hok : ∀ mid, zMok M mid) (hM : zMet M l b B L xs dC dI cA d) (hfr : d + 1 ≤ R.frames) (hlo : 40 * d + 40 ≤ R.locals) (hn0 : s.heap.size + 1 = B + n0) {ret : Option FieldType} {tab : List (Nat × zO)} (hT : zTok M own nm cc ret tab) {r : zR} (hc : zn r.2 - n0 ≤ R.cells) (hsl : zu r.2 - u0 ≤ R.slots)
    (hend : ∀ (pc : Nat) (ls : zL) (st : List zV) (h : zH) (o : zO), (pc, o) ∈ tab → zret o st h = some (.inl r) → zWA p l e R s m args below meth c Q b B L xs dC dI cA n0 u0 nL (pc, ls, st, h)) :
    ∀ (n : Nat) (x : zS), zex (zcall (zP M) d) (zlk tab) n x = some r → n0 ≤ zn x.2.2.2 → u0 ≤ zu x.2.2.2 → zWA p l e R s m args below meth c Q b B L xs dC dI cA n0 u0 nL x := by
  intro n
  induction n with
  | zero =>
    intro x h
    simp [zex] at h
  | succ n ih =>
    intro x h hle hu
    obtain ⟨pc, ls, st, hp⟩ := x
    have hcal : ∀ mid as h r, zcall (zP M) d mid as h = some r → zn h ≤ zn r.2 ∧ zu h ≤ zu r.2 := fun mid as h r hr => (hM mid as h r hr).1
    simp only [zex] at h
    cases hs : (zlk tab pc).bind fun o => zstp (zcall (zP M) d) o (pc, ls, st, hp) with
    | none => rw [hs] at h; cases h
    | some w =>
      rw [hs] at h
      cases ho : zlk tab pc with
      | none => rw [ho] at hs; cases hs
      | some o =>
        rw [ho, Option.bind_some] at hs
        cases w with
        | inl q =>
          cases h
          exact hend pc ls st hp o (zlk_mem ho) (zm_end hs)
        | inr y =>
          have h1 := zm_step hcal hs
          have h2 := zex_mono hcal n y r h
          dsimp only at h1 hle hu
          exact zs_step C hok hM hfr hlo hn0 hle hu hT (zlk_mem ho) hs (by omega) (by omega) (ih y h (by omega) (by omega))
end ZRUN
theorem zMet_all {M : Nat → zQ} (hok : ∀ mid, zMok M mid) (l : Launch) {b B L : Nat} (hbB : b < B) (xs : Nat → Int32) (dC : Nat → ClassId) (dI : Nat → Nat → Nat) (cA : Nat → ClassId) : ∀ d, zMet M l b B L xs dC dI cA d := by
  intro d
  induction d with
  | zero =>
    intro mid as h r hr
    simp [zcall] at hr
  | succ d ih =>
    intro mid as h r hr
    rw [zcall_succ] at hr
    split at hr
    · rename_i hlen
      obtain ⟨n, hn⟩ := zx_iff.mp hr
      have hcal : ∀ mid as h r, zcall (zP M) d mid as h = some r → zn h ≤ zn r.2 ∧ zu h ≤ zu r.2 := fun mid as h r hr => (ih mid as h r hr).1
      have hmono := zex_mono hcal n _ r hn
      refine ⟨hmono, fun hcd => ?_⟩
      obtain ⟨hT, hpl, hmh, hpar, hmax⟩ := hok mid
      refine Met.ofW (cc := (M mid).2.1) (maxL := (M mid).2.2.1) (ret := (M mid).2.2.2.2.1) hpl rfl ?_
      intro p e s m args below meth c s₁ Bd hml hv
      obtain ⟨rfl, hR, hK, hX, hBs⟩ := hv
      have hts0 := atoms_spec (ws := zwsM M mid) Bd.pre
      have C : zCx p s m (as.map (ztr b B)).toArray meth c (M mid).2.1 (M mid).1.cls (M mid).1.name (M mid).2.2.1 b B L xs dC dI cA :=
        ⟨Bd.exec, Bd.bytes, hml, findClass_of_methodNamed Bd.named, fun w hw => hts0 w (List.mem_cons_of_mem _ hw), hK, hX, hbB, hBs, Bd.notSynchronized, (name_of_methodNamed Bd.named Bd.method).1⟩
      have hl := zLV_entry b B as hlen
      rw [lg_entry_eq]
      have key := zs_exec (R := (headSpec (zwsM M mid) (zrm (d + 1) (zn r.2 - zn h) (zu r.2 - zu h))).room) (below := below) (e := e) (n0 := zn h) (u0 := zu h) (Q := MQ below (zQc b B L xs dC dI cA r) (as.map (ztr b B)).toArray s (zn r.2 - zn h) (zu r.2 - zu h) (fun q => B ≤ q)) C hok ih (Nat.le_refl (d + 1)) (show 40 * d + 40 ≤ 40 * (d + 1) by omega) hR.2.1 hT (r := r) (Nat.le_refl _) (Nat.le_refl _) (fun pc ls st h' o ho hs => zs_ret C hT Bd.returns ho hs) n _ hn (Nat.le_refl _) (Nat.le_refl _)
      have K := key s.heap [] _ hR va_S.rf hl
      dsimp only at K
      rw [Nat.sub_self, Nat.sub_self] at K
      exact K
    · cases hr
end
