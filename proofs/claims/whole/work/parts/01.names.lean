-- ===== PART A: goes FIRST, ahead of the names: the tables' words, and 'selects' of the private methods out of them =====
/-- a private method of a class that the tables say can be made, by its rows of tables_1 -/
def lw_okq (q : MethodName × Nat) : Prop := (q.1.cls ≠ "java/lang/invoke/MethodHandle" ∧ q.1.cls ≠ "java/lang/invoke/VarHandle") ∧ Cond.instantiable q.1.cls q.2 ∈ tables_1 ∧ Cond.privateMethod q.1 ∈ tables_1 ∧ Cond.instanceMethod q.1 ∈ tables_1
theorem lw_p0 : lw_okq (⟨"CorpseTales", "sheetAt", "(I)LCorpseTales$Sheet;"⟩, 12) := ⟨⟨by decide +kernel, by decide +kernel⟩, List.mem_of_getElem? (i := 18) (by decide +kernel), List.mem_of_getElem? (i := 230) (by decide +kernel), List.mem_of_getElem? (i := 231) (by decide +kernel)⟩
theorem lw_p1 : lw_okq (⟨"CorpseTales", "failing", "(I)I"⟩, 12) := ⟨⟨by decide +kernel, by decide +kernel⟩, List.mem_of_getElem? (i := 18) (by decide +kernel), List.mem_of_getElem? (i := 253) (by decide +kernel), List.mem_of_getElem? (i := 254) (by decide +kernel)⟩
theorem lw_p2 : lw_okq (⟨"CorpseTales", "takeOrder", "(IIIII)I"⟩, 12) := ⟨⟨by decide +kernel, by decide +kernel⟩, List.mem_of_getElem? (i := 18) (by decide +kernel), List.mem_of_getElem? (i := 397) (by decide +kernel), List.mem_of_getElem? (i := 398) (by decide +kernel)⟩
theorem lw_p3 : lw_okq (⟨"CorpseTales", "passNight", "(I)V"⟩, 12) := ⟨⟨by decide +kernel, by decide +kernel⟩, List.mem_of_getElem? (i := 18) (by decide +kernel), List.mem_of_getElem? (i := 402) (by decide +kernel), List.mem_of_getElem? (i := 403) (by decide +kernel)⟩
theorem lw_p4 : lw_okq (⟨"CorpseTales$Night", "walk", "(I)V"⟩, 8) := ⟨⟨by decide +kernel, by decide +kernel⟩, List.mem_of_getElem? (i := 86) (by decide +kernel), List.mem_of_getElem? (i := 414) (by decide +kernel), List.mem_of_getElem? (i := 415) (by decide +kernel)⟩
theorem lw_p5 : lw_okq (⟨"CorpseTales$Never", "goOn", "(LCorpseTales$Forest;II)V"⟩, 5) := ⟨⟨by decide +kernel, by decide +kernel⟩, List.mem_of_getElem? (i := 127) (by decide +kernel), List.mem_of_getElem? (i := 443) (by decide +kernel), List.mem_of_getElem? (i := 444) (by decide +kernel)⟩
theorem lw_p6 : lw_okq (⟨"CorpseTales$Never", "tellNext", "(LCorpseTales$Forest;III)V"⟩, 5) := ⟨⟨by decide +kernel, by decide +kernel⟩, List.mem_of_getElem? (i := 127) (by decide +kernel), List.mem_of_getElem? (i := 451) (by decide +kernel), List.mem_of_getElem? (i := 452) (by decide +kernel)⟩
theorem lw_p7 : lw_okq (⟨"CorpseTales$Game", "leastFar", "(LCorpseTales$Forest;III)I"⟩, 2) := ⟨⟨by decide +kernel, by decide +kernel⟩, List.mem_of_getElem? (i := 158) (by decide +kernel), List.mem_of_getElem? (i := 478) (by decide +kernel), List.mem_of_getElem? (i := 479) (by decide +kernel)⟩
theorem lw_p8 : lw_okq (⟨"CorpseTales$Game", "mostFar", "(LCorpseTales$Forest;IIII)I"⟩, 2) := ⟨⟨by decide +kernel, by decide +kernel⟩, List.mem_of_getElem? (i := 158) (by decide +kernel), List.mem_of_getElem? (i := 483) (by decide +kernel), List.mem_of_getElem? (i := 484) (by decide +kernel)⟩
theorem lw_p9 : lw_okq (⟨"CorpseTales", "fitsReadings", "(I)Z"⟩, 12) := ⟨⟨by decide +kernel, by decide +kernel⟩, List.mem_of_getElem? (i := 18) (by decide +kernel), List.mem_of_getElem? (i := 521) (by decide +kernel), List.mem_of_getElem? (i := 522) (by decide +kernel)⟩
theorem lw_p10 : lw_okq (⟨"CorpseTalesModel", "refused", "(I)I"⟩, 43) := ⟨⟨by decide +kernel, by decide +kernel⟩, List.mem_of_getElem? (i := 631) (by decide +kernel), List.mem_of_getElem? (i := 778) (by decide +kernel), List.mem_of_getElem? (i := 779) (by decide +kernel)⟩
theorem lw_p11 : lw_okq (⟨"CorpseTalesModel", "cellsBarred", "(IIIJ)I"⟩, 43) := ⟨⟨by decide +kernel, by decide +kernel⟩, List.mem_of_getElem? (i := 631) (by decide +kernel), List.mem_of_getElem? (i := 783) (by decide +kernel), List.mem_of_getElem? (i := 784) (by decide +kernel)⟩
theorem lw_p12 : lw_okq (⟨"CorpseTalesModel", "failed", "(I)I"⟩, 43) := ⟨⟨by decide +kernel, by decide +kernel⟩, List.mem_of_getElem? (i := 631) (by decide +kernel), List.mem_of_getElem? (i := 787) (by decide +kernel), List.mem_of_getElem? (i := 788) (by decide +kernel)⟩
theorem lw_p13 : lw_okq (⟨"CorpseTalesModel", "readsForest", "(II)Z"⟩, 43) := ⟨⟨by decide +kernel, by decide +kernel⟩, List.mem_of_getElem? (i := 631) (by decide +kernel), List.mem_of_getElem? (i := 794) (by decide +kernel), List.mem_of_getElem? (i := 795) (by decide +kernel)⟩
theorem lw_p14 : lw_okq (⟨"CorpseTalesModel", "codeAt", "(II)I"⟩, 43) := ⟨⟨by decide +kernel, by decide +kernel⟩, List.mem_of_getElem? (i := 631) (by decide +kernel), List.mem_of_getElem? (i := 798) (by decide +kernel), List.mem_of_getElem? (i := 799) (by decide +kernel)⟩
theorem lw_p15 : lw_okq (⟨"CorpseTalesModel", "figure", "(IIII)I"⟩, 43) := ⟨⟨by decide +kernel, by decide +kernel⟩, List.mem_of_getElem? (i := 631) (by decide +kernel), List.mem_of_getElem? (i := 802) (by decide +kernel), List.mem_of_getElem? (i := 803) (by decide +kernel)⟩
def lw_privs_1 : List (MethodName × Nat) := [(⟨"CorpseTales", "sheetAt", "(I)LCorpseTales$Sheet;"⟩, 12), (⟨"CorpseTales", "failing", "(I)I"⟩, 12), (⟨"CorpseTales", "takeOrder", "(IIIII)I"⟩, 12), (⟨"CorpseTales", "passNight", "(I)V"⟩, 12), (⟨"CorpseTales$Night", "walk", "(I)V"⟩, 8), (⟨"CorpseTales$Never", "goOn", "(LCorpseTales$Forest;II)V"⟩, 5), (⟨"CorpseTales$Never", "tellNext", "(LCorpseTales$Forest;III)V"⟩, 5), (⟨"CorpseTales$Game", "leastFar", "(LCorpseTales$Forest;III)I"⟩, 2), (⟨"CorpseTales$Game", "mostFar", "(LCorpseTales$Forest;IIII)I"⟩, 2), (⟨"CorpseTales", "fitsReadings", "(I)Z"⟩, 12), (⟨"CorpseTalesModel", "refused", "(I)I"⟩, 43), (⟨"CorpseTalesModel", "cellsBarred", "(IIIJ)I"⟩, 43), (⟨"CorpseTalesModel", "failed", "(I)I"⟩, 43), (⟨"CorpseTalesModel", "readsForest", "(II)Z"⟩, 43), (⟨"CorpseTalesModel", "codeAt", "(II)I"⟩, 43), (⟨"CorpseTalesModel", "figure", "(IIII)I"⟩, 43)]
theorem lw_r1 : ∀ q ∈ lw_privs_1, lw_okq q := List.forall_mem_cons.mpr ⟨lw_p0, List.forall_mem_cons.mpr ⟨lw_p1, List.forall_mem_cons.mpr ⟨lw_p2, List.forall_mem_cons.mpr ⟨lw_p3, List.forall_mem_cons.mpr ⟨lw_p4, List.forall_mem_cons.mpr ⟨lw_p5, List.forall_mem_cons.mpr ⟨lw_p6, List.forall_mem_cons.mpr ⟨lw_p7, List.forall_mem_cons.mpr ⟨lw_p8, List.forall_mem_cons.mpr ⟨lw_p9, List.forall_mem_cons.mpr ⟨lw_p10, List.forall_mem_cons.mpr ⟨lw_p11, List.forall_mem_cons.mpr ⟨lw_p12, List.forall_mem_cons.mpr ⟨lw_p13, List.forall_mem_cons.mpr ⟨lw_p14, List.forall_mem_cons.mpr ⟨lw_p15, fun _ h => absurd h List.not_mem_nil⟩⟩⟩⟩⟩⟩⟩⟩⟩⟩⟩⟩⟩⟩⟩⟩
theorem lw_p16 : lw_okq (⟨"CorpseTalesModel", "readsTale", "(II)Z"⟩, 43) := ⟨⟨by decide +kernel, by decide +kernel⟩, List.mem_of_getElem? (i := 631) (by decide +kernel), List.mem_of_getElem? (i := 806) (by decide +kernel), List.mem_of_getElem? (i := 807) (by decide +kernel)⟩
theorem lw_p17 : lw_okq (⟨"CorpseTalesModel", "noTale", "(I)Z"⟩, 43) := ⟨⟨by decide +kernel, by decide +kernel⟩, List.mem_of_getElem? (i := 631) (by decide +kernel), List.mem_of_getElem? (i := 814) (by decide +kernel), List.mem_of_getElem? (i := 815) (by decide +kernel)⟩
theorem lw_p18 : lw_okq (⟨"CorpseTalesModel", "hasAnswer", "(III)Z"⟩, 43) := ⟨⟨by decide +kernel, by decide +kernel⟩, List.mem_of_getElem? (i := 631) (by decide +kernel), List.mem_of_getElem? (i := 818) (by decide +kernel), List.mem_of_getElem? (i := 819) (by decide +kernel)⟩
theorem lw_p19 : lw_okq (⟨"CorpseTalesModel", "orderBarred", "(IIII)I"⟩, 43) := ⟨⟨by decide +kernel, by decide +kernel⟩, List.mem_of_getElem? (i := 631) (by decide +kernel), List.mem_of_getElem? (i := 838) (by decide +kernel), List.mem_of_getElem? (i := 839) (by decide +kernel)⟩
theorem lw_p20 : lw_okq (⟨"CorpseTalesModel", "goOrder", "(III)V"⟩, 43) := ⟨⟨by decide +kernel, by decide +kernel⟩, List.mem_of_getElem? (i := 631) (by decide +kernel), List.mem_of_getElem? (i := 842) (by decide +kernel), List.mem_of_getElem? (i := 843) (by decide +kernel)⟩
theorem lw_p21 : lw_okq (⟨"CorpseTalesModel", "beginNight", "(I)V"⟩, 43) := ⟨⟨by decide +kernel, by decide +kernel⟩, List.mem_of_getElem? (i := 631) (by decide +kernel), List.mem_of_getElem? (i := 846) (by decide +kernel), List.mem_of_getElem? (i := 847) (by decide +kernel)⟩
theorem lw_p22 : lw_okq (⟨"CorpseTalesModel", "goHeard", "(I)V"⟩, 43) := ⟨⟨by decide +kernel, by decide +kernel⟩, List.mem_of_getElem? (i := 631) (by decide +kernel), List.mem_of_getElem? (i := 850) (by decide +kernel), List.mem_of_getElem? (i := 851) (by decide +kernel)⟩
theorem lw_p23 : lw_okq (⟨"CorpseTalesModel", "goTale", "(I)Z"⟩, 43) := ⟨⟨by decide +kernel, by decide +kernel⟩, List.mem_of_getElem? (i := 631) (by decide +kernel), List.mem_of_getElem? (i := 854) (by decide +kernel), List.mem_of_getElem? (i := 855) (by decide +kernel)⟩
theorem lw_p24 : lw_okq (⟨"CorpseTalesModel", "goSteps", "(I)V"⟩, 43) := ⟨⟨by decide +kernel, by decide +kernel⟩, List.mem_of_getElem? (i := 631) (by decide +kernel), List.mem_of_getElem? (i := 858) (by decide +kernel), List.mem_of_getElem? (i := 859) (by decide +kernel)⟩
theorem lw_p25 : lw_okq (⟨"CorpseTalesModel", "seekNever", "(I)V"⟩, 43) := ⟨⟨by decide +kernel, by decide +kernel⟩, List.mem_of_getElem? (i := 631) (by decide +kernel), List.mem_of_getElem? (i := 873) (by decide +kernel), List.mem_of_getElem? (i := 874) (by decide +kernel)⟩
theorem lw_p26 : lw_okq (⟨"CorpseTalesModel", "isUsed", "(II)Z"⟩, 43) := ⟨⟨by decide +kernel, by decide +kernel⟩, List.mem_of_getElem? (i := 631) (by decide +kernel), List.mem_of_getElem? (i := 877) (by decide +kernel), List.mem_of_getElem? (i := 878) (by decide +kernel)⟩
theorem lw_p27 : lw_okq (⟨"CorpseTalesModel", "lookAtRow", "(I)V"⟩, 43) := ⟨⟨by decide +kernel, by decide +kernel⟩, List.mem_of_getElem? (i := 631) (by decide +kernel), List.mem_of_getElem? (i := 881) (by decide +kernel), List.mem_of_getElem? (i := 882) (by decide +kernel)⟩
theorem lw_p28 : lw_okq (⟨"CorpseTalesModel", "play", "(I)I"⟩, 43) := ⟨⟨by decide +kernel, by decide +kernel⟩, List.mem_of_getElem? (i := 631) (by decide +kernel), List.mem_of_getElem? (i := 896) (by decide +kernel), List.mem_of_getElem? (i := 897) (by decide +kernel)⟩
theorem lw_p29 : lw_okq (⟨"CorpseTalesModel", "nextWay", "(I)I"⟩, 43) := ⟨⟨by decide +kernel, by decide +kernel⟩, List.mem_of_getElem? (i := 631) (by decide +kernel), List.mem_of_getElem? (i := 900) (by decide +kernel), List.mem_of_getElem? (i := 901) (by decide +kernel)⟩
theorem lw_p30 : lw_okq (⟨"CorpseTalesModel", "goWay", "(I)V"⟩, 43) := ⟨⟨by decide +kernel, by decide +kernel⟩, List.mem_of_getElem? (i := 631) (by decide +kernel), List.mem_of_getElem? (i := 904) (by decide +kernel), List.mem_of_getElem? (i := 905) (by decide +kernel)⟩
theorem lw_p31 : lw_okq (⟨"CorpseTalesModel", "areSo", "(I)Z"⟩, 43) := ⟨⟨by decide +kernel, by decide +kernel⟩, List.mem_of_getElem? (i := 631) (by decide +kernel), List.mem_of_getElem? (i := 934) (by decide +kernel), List.mem_of_getElem? (i := 935) (by decide +kernel)⟩
def lw_privs_2 : List (MethodName × Nat) := [(⟨"CorpseTalesModel", "readsTale", "(II)Z"⟩, 43), (⟨"CorpseTalesModel", "noTale", "(I)Z"⟩, 43), (⟨"CorpseTalesModel", "hasAnswer", "(III)Z"⟩, 43), (⟨"CorpseTalesModel", "orderBarred", "(IIII)I"⟩, 43), (⟨"CorpseTalesModel", "goOrder", "(III)V"⟩, 43), (⟨"CorpseTalesModel", "beginNight", "(I)V"⟩, 43), (⟨"CorpseTalesModel", "goHeard", "(I)V"⟩, 43), (⟨"CorpseTalesModel", "goTale", "(I)Z"⟩, 43), (⟨"CorpseTalesModel", "goSteps", "(I)V"⟩, 43), (⟨"CorpseTalesModel", "seekNever", "(I)V"⟩, 43), (⟨"CorpseTalesModel", "isUsed", "(II)Z"⟩, 43), (⟨"CorpseTalesModel", "lookAtRow", "(I)V"⟩, 43), (⟨"CorpseTalesModel", "play", "(I)I"⟩, 43), (⟨"CorpseTalesModel", "nextWay", "(I)I"⟩, 43), (⟨"CorpseTalesModel", "goWay", "(I)V"⟩, 43), (⟨"CorpseTalesModel", "areSo", "(I)Z"⟩, 43)]
theorem lw_r2 : ∀ q ∈ lw_privs_2, lw_okq q := List.forall_mem_cons.mpr ⟨lw_p16, List.forall_mem_cons.mpr ⟨lw_p17, List.forall_mem_cons.mpr ⟨lw_p18, List.forall_mem_cons.mpr ⟨lw_p19, List.forall_mem_cons.mpr ⟨lw_p20, List.forall_mem_cons.mpr ⟨lw_p21, List.forall_mem_cons.mpr ⟨lw_p22, List.forall_mem_cons.mpr ⟨lw_p23, List.forall_mem_cons.mpr ⟨lw_p24, List.forall_mem_cons.mpr ⟨lw_p25, List.forall_mem_cons.mpr ⟨lw_p26, List.forall_mem_cons.mpr ⟨lw_p27, List.forall_mem_cons.mpr ⟨lw_p28, List.forall_mem_cons.mpr ⟨lw_p29, List.forall_mem_cons.mpr ⟨lw_p30, List.forall_mem_cons.mpr ⟨lw_p31, fun _ h => absurd h List.not_mem_nil⟩⟩⟩⟩⟩⟩⟩⟩⟩⟩⟩⟩⟩⟩⟩⟩
theorem lw_p32 : lw_okq (⟨"CorpseTalesModel", "noCell", "(II)I"⟩, 43) := ⟨⟨by decide +kernel, by decide +kernel⟩, List.mem_of_getElem? (i := 631) (by decide +kernel), List.mem_of_getElem? (i := 950) (by decide +kernel), List.mem_of_getElem? (i := 951) (by decide +kernel)⟩
theorem lw_p33 : lw_okq (⟨"CorpseTalesModel", "failedLong", "(I)J"⟩, 43) := ⟨⟨by decide +kernel, by decide +kernel⟩, List.mem_of_getElem? (i := 631) (by decide +kernel), List.mem_of_getElem? (i := 958) (by decide +kernel), List.mem_of_getElem? (i := 959) (by decide +kernel)⟩
theorem lw_p34 : lw_okq (⟨"CorpseTalesModel", "traced", "(I)V"⟩, 43) := ⟨⟨by decide +kernel, by decide +kernel⟩, List.mem_of_getElem? (i := 631) (by decide +kernel), List.mem_of_getElem? (i := 970) (by decide +kernel), List.mem_of_getElem? (i := 971) (by decide +kernel)⟩
def lw_privs_3 : List (MethodName × Nat) := [(⟨"CorpseTalesModel", "noCell", "(II)I"⟩, 43), (⟨"CorpseTalesModel", "failedLong", "(I)J"⟩, 43), (⟨"CorpseTalesModel", "traced", "(I)V"⟩, 43)]
theorem lw_r3 : ∀ q ∈ lw_privs_3, lw_okq q := List.forall_mem_cons.mpr ⟨lw_p32, List.forall_mem_cons.mpr ⟨lw_p33, List.forall_mem_cons.mpr ⟨lw_p34, fun _ h => absurd h List.not_mem_nil⟩⟩⟩
def lw_privs : List (MethodName × Nat) := lw_privs_1 ++ (lw_privs_2 ++ (lw_privs_3))
def lw_tbl : List Cond := k2_sels lw_privs ++ tables_1
theorem lw_privs_ok : ∀ q ∈ lw_privs, lw_okq q := by
  show ∀ q ∈ lw_privs_1 ++ (lw_privs_2 ++ (lw_privs_3)), lw_okq q
  exact List.forall_mem_append.mpr ⟨lw_r1, List.forall_mem_append.mpr ⟨lw_r2, lw_r3⟩⟩
def RX0 : String := "CorpseTales$DoubleTale"
def TX0 : u_T := fun k => match k with
  | 0 => ("CorpseTales$Tale", "number", "I", true)
  | 1 => ("CorpseTales$Tale", "firstNeed", "I", true)
  | 2 => ("CorpseTales$Tale", "secondNeed", "I", true)
  | 3 => ("CorpseTales$Tale", "teaches", "I", true)
  | _ => ("CorpseTales$Tale", "length", "I", true)
def tyX0 : Nat → FieldType := fun k => match k with
  | 0 => .int
  | 1 => .int
  | 2 => .int
  | 3 => .int
  | _ => .int
abbrev wsX00 : List Cond := u_ws RX0 TX0 5
theorem nmX0 : ∀ a, a < 5 → ∀ b, b < 5 → a ≠ b → (TX0 a).2.1 ≠ (TX0 b).2.1 := by decide +kernel
theorem tyX0_ok : ∀ k, k < 5 → parseFieldDescriptor (TX0 k).2.2.1 = some (tyX0 k) := by decide +kernel
abbrev cX0_init : ByteArray := prog_2_method_1_code
def yX0_init : MethodName := ⟨RX0, "<init>", "(IIIII)V"⟩
abbrev cX0_kind : ByteArray := prog_2_method_2_code
def yX0_kind : MethodName := ⟨RX0, "kind", "()I"⟩
abbrev cX0_isAnswered : ByteArray := prog_2_method_3_code
def yX0_isAnswered : MethodName := ⟨RX0, "isAnswered", "(II)Z"⟩
abbrev cX0_oddsUnanswered : ByteArray := prog_2_method_4_code
def yX0_oddsUnanswered : MethodName := ⟨RX0, "oddsUnanswered", "(I)I"⟩
abbrev cX0_telling : ByteArray := prog_2_method_5_code
def yX0_telling : MethodName := ⟨RX0, "telling", "(LCorpseTales$Trace;)I"⟩
def RX1 : String := "CorpseTales$Forest"
def TX1 : u_T := fun k => match k with
  | 0 => ("CorpseTales$Forest", "steps", "I", false)
  | 1 => ("CorpseTales$Forest", "count", "I", false)
  | _ => ("CorpseTales$Forest", "tales", "[LCorpseTales$Tale;", true)
def tyX1 : Nat → FieldType := fun k => match k with
  | 0 => .int
  | 1 => .int
  | _ => .array (.object "CorpseTales$Tale")
abbrev wsX10 : List Cond := u_ws RX1 TX1 3
theorem nmX1 : ∀ a, a < 3 → ∀ b, b < 3 → a ≠ b → (TX1 a).2.1 ≠ (TX1 b).2.1 := by decide +kernel
theorem tyX1_ok : ∀ k, k < 3 → parseFieldDescriptor (TX1 k).2.2.1 = some (tyX1 k) := by decide +kernel
abbrev cX1_init : ByteArray := prog_3_method_1_code
def yX1_init : MethodName := ⟨RX1, "<init>", "()V"⟩
abbrev cX1_taleAt : ByteArray := prog_3_method_2_code
def yX1_taleAt : MethodName := ⟨RX1, "taleAt", "(I)LCorpseTales$Tale;"⟩
abbrev cX1_firstFault : ByteArray := prog_3_method_3_code
def yX1_firstFault : MethodName := ⟨RX1, "firstFault", "(LCorpseTales$Sheet;II)I"⟩
abbrev cX1_goesOn : ByteArray := prog_3_method_4_code
def yX1_goesOn : MethodName := ⟨RX1, "goesOn", "(II)Z"⟩
abbrev cX1_grow : ByteArray := prog_3_method_5_code
def yX1_grow : MethodName := ⟨RX1, "grow", "(LCorpseTales$Sheet;II)V"⟩
abbrev cX1_newTale : ByteArray := prog_3_method_6_code
def yX1_newTale : MethodName := ⟨RX1, "newTale", "(ILCorpseTales$Sheet;I)LCorpseTales$Tale;"⟩
def RX2 : String := "CorpseTales$Game"
def TX2 : u_T := fun k => match k with
  | 0 => ("CorpseTales$Game", "nights", "[LCorpseTales$Night;", true)
  | _ => ("CorpseTales$Game", "length", "I", false)
def tyX2 : Nat → FieldType := fun k => match k with
  | 0 => .array (.object "CorpseTales$Night")
  | _ => .int
abbrev wsX20 : List Cond := u_ws RX2 TX2 2
theorem nmX2 : ∀ a, a < 2 → ∀ b, b < 2 → a ≠ b → (TX2 a).2.1 ≠ (TX2 b).2.1 := by decide +kernel
theorem tyX2_ok : ∀ k, k < 2 → parseFieldDescriptor (TX2 k).2.2.1 = some (tyX2 k) := by decide +kernel
abbrev cX2_init : ByteArray := prog_4_method_1_code
def yX2_init : MethodName := ⟨RX2, "<init>", "()V"⟩
abbrev cX2_farByBestPlay : ByteArray := prog_4_method_2_code
def yX2_farByBestPlay : MethodName := ⟨RX2, "farByBestPlay", "(LCorpseTales$Forest;LCorpseTales$Night;I)I"⟩
abbrev cX2_leastFar : ByteArray := prog_4_method_3_code
def yX2_leastFar : MethodName := ⟨RX2, "leastFar", "(LCorpseTales$Forest;III)I"⟩
abbrev cX2_mostFar : ByteArray := prog_4_method_4_code
def yX2_mostFar : MethodName := ⟨RX2, "mostFar", "(LCorpseTales$Forest;IIII)I"⟩
def RX3 : String := "CorpseTales$Never"
def TX3 : u_T := fun k => match k with
  | 0 => ("CorpseTales$Never", "mostFlights", "I", false)
  | 1 => ("CorpseTales$Never", "bestRow", "[I", true)
  | 2 => ("CorpseTales$Never", "row", "[I", true)
  | 3 => ("CorpseTales$Never", "nights", "[LCorpseTales$Night;", true)
  | _ => ("CorpseTales$Never", "length", "I", false)
def tyX3 : Nat → FieldType := fun k => match k with
  | 0 => .int
  | 1 => .array .int
  | 2 => .array .int
  | 3 => .array (.object "CorpseTales$Night")
  | _ => .int
abbrev wsX30 : List Cond := u_ws RX3 TX3 5
theorem nmX3 : ∀ a, a < 5 → ∀ b, b < 5 → a ≠ b → (TX3 a).2.1 ≠ (TX3 b).2.1 := by decide +kernel
theorem tyX3_ok : ∀ k, k < 5 → parseFieldDescriptor (TX3 k).2.2.1 = some (tyX3 k) := by decide +kernel
abbrev cX3_init : ByteArray := prog_5_method_1_code
def yX3_init : MethodName := ⟨RX3, "<init>", "()V"⟩
abbrev cX3_seek : ByteArray := prog_5_method_2_code
def yX3_seek : MethodName := ⟨RX3, "seek", "(LCorpseTales$Forest;LCorpseTales$Night;I)V"⟩
abbrev cX3_goOn : ByteArray := prog_5_method_3_code
def yX3_goOn : MethodName := ⟨RX3, "goOn", "(LCorpseTales$Forest;II)V"⟩
abbrev cX3_tellNext : ByteArray := prog_5_method_4_code
def yX3_tellNext : MethodName := ⟨RX3, "tellNext", "(LCorpseTales$Forest;III)V"⟩
def RX4 : String := "CorpseTales$Night"
def TX4 : u_T := fun k => match k with
  | 0 => ("CorpseTales$Night", "step", "I", false)
  | 1 => ("CorpseTales$Night", "flights", "I", false)
  | 2 => ("CorpseTales$Night", "heardOut", "I", false)
  | 3 => ("CorpseTales$Night", "known", "I", false)
  | 4 => ("CorpseTales$Night", "hasCome", "Z", false)
  | 5 => ("CorpseTales$Night", "steps", "I", false)
  | 6 => ("CorpseTales$Night", "believed", "I", false)
  | _ => ("CorpseTales$Night", "heardTales", "I", false)
def tyX4 : Nat → FieldType := fun k => match k with
  | 0 => .int
  | 1 => .int
  | 2 => .int
  | 3 => .int
  | 4 => .boolean
  | 5 => .int
  | 6 => .int
  | _ => .int
abbrev wsX40 : List Cond := u_ws RX4 TX4 8
theorem nmX4 : ∀ a, a < 8 → ∀ b, b < 8 → a ≠ b → (TX4 a).2.1 ≠ (TX4 b).2.1 := by decide +kernel
theorem tyX4_ok : ∀ k, k < 8 → parseFieldDescriptor (TX4 k).2.2.1 = some (tyX4 k) := by decide +kernel
abbrev cX4_init : ByteArray := prog_6_method_1_code
def yX4_init : MethodName := ⟨RX4, "<init>", "()V"⟩
abbrev cX4_begin : ByteArray := prog_6_method_2_code
def yX4_begin : MethodName := ⟨RX4, "begin", "(III)V"⟩
abbrev cX4_takeUp : ByteArray := prog_6_method_3_code
def yX4_takeUp : MethodName := ⟨RX4, "takeUp", "(LCorpseTales$Night;)V"⟩
abbrev cX4_hear : ByteArray := prog_6_method_4_code
def yX4_hear : MethodName := ⟨RX4, "hear", "(LCorpseTales$Tale;Z)V"⟩
abbrev cX4_learn : ByteArray := prog_6_method_5_code
def yX4_learn : MethodName := ⟨RX4, "learn", "(LCorpseTales$Tale;)V"⟩
abbrev cX4_walk : ByteArray := prog_6_method_6_code
def yX4_walk : MethodName := ⟨RX4, "walk", "(I)V"⟩
def RX5 : String := "CorpseTales$OldTale"
def TX5 : u_T := fun k => match k with
  | 0 => ("CorpseTales$Tale", "number", "I", true)
  | 1 => ("CorpseTales$Tale", "firstNeed", "I", true)
  | 2 => ("CorpseTales$Tale", "secondNeed", "I", true)
  | 3 => ("CorpseTales$Tale", "teaches", "I", true)
  | _ => ("CorpseTales$Tale", "length", "I", true)
def tyX5 : Nat → FieldType := fun k => match k with
  | 0 => .int
  | 1 => .int
  | 2 => .int
  | 3 => .int
  | _ => .int
abbrev wsX50 : List Cond := u_ws RX5 TX5 5
theorem nmX5 : ∀ a, a < 5 → ∀ b, b < 5 → a ≠ b → (TX5 a).2.1 ≠ (TX5 b).2.1 := by decide +kernel
theorem tyX5_ok : ∀ k, k < 5 → parseFieldDescriptor (TX5 k).2.2.1 = some (tyX5 k) := by decide +kernel
abbrev cX5_init : ByteArray := prog_7_method_1_code
def yX5_init : MethodName := ⟨RX5, "<init>", "(IIIII)V"⟩
abbrev cX5_kind : ByteArray := prog_7_method_2_code
def yX5_kind : MethodName := ⟨RX5, "kind", "()I"⟩
abbrev cX5_isAnswered : ByteArray := prog_7_method_3_code
def yX5_isAnswered : MethodName := ⟨RX5, "isAnswered", "(II)Z"⟩
abbrev cX5_telling : ByteArray := prog_7_method_4_code
def yX5_telling : MethodName := ⟨RX5, "telling", "(LCorpseTales$Trace;)I"⟩
abbrev cX5_whispering : ByteArray := prog_7_method_5_code
def yX5_whispering : MethodName := ⟨RX5, "whispering", "(LCorpseTales$Trace;)I"⟩
def RX6 : String := "CorpseTales$Readings"
def TX6 : u_T := fun k => match k with
  | 0 => ("CorpseTales$Readings", "count", "I", false)
  | 1 => ("CorpseTales$Readings", "first", "[I", true)
  | 2 => ("CorpseTales$Readings", "second", "[I", true)
  | _ => ("CorpseTales$Readings", "far", "[I", true)
def tyX6 : Nat → FieldType := fun k => match k with
  | 0 => .int
  | 1 => .array .int
  | 2 => .array .int
  | _ => .array .int
abbrev wsX60 : List Cond := u_ws RX6 TX6 4
theorem nmX6 : ∀ a, a < 4 → ∀ b, b < 4 → a ≠ b → (TX6 a).2.1 ≠ (TX6 b).2.1 := by decide +kernel
theorem tyX6_ok : ∀ k, k < 4 → parseFieldDescriptor (TX6 k).2.2.1 = some (tyX6 k) := by decide +kernel
abbrev cX6_init : ByteArray := prog_8_method_1_code
def yX6_init : MethodName := ⟨RX6, "<init>", "()V"⟩
abbrev cX6_add : ByteArray := prog_8_method_2_code
def yX6_add : MethodName := ⟨RX6, "add", "(III)I"⟩
def RX7 : String := "CorpseTales$Sheet"
def TX7 : u_T := fun k => match k with
  | 0 => ("CorpseTales$Sheet", "lane", "I", false)
  | 1 => ("CorpseTales$Sheet", "count", "I", false)
  | _ => ("CorpseTales$Sheet", "cells", "[I", true)
def tyX7 : Nat → FieldType := fun k => match k with
  | 0 => .int
  | 1 => .int
  | _ => .array .int
abbrev wsX70 : List Cond := u_ws RX7 TX7 3
theorem nmX7 : ∀ a, a < 3 → ∀ b, b < 3 → a ≠ b → (TX7 a).2.1 ≠ (TX7 b).2.1 := by decide +kernel
theorem tyX7_ok : ∀ k, k < 3 → parseFieldDescriptor (TX7 k).2.2.1 = some (tyX7 k) := by decide +kernel
abbrev cX7_init : ByteArray := prog_9_method_1_code
def yX7_init : MethodName := ⟨RX7, "<init>", "()V"⟩
abbrev cX7_isNothing : ByteArray := prog_9_method_2_code
def yX7_isNothing : MethodName := ⟨RX7, "isNothing", "()Z"⟩
abbrev cX7_clear : ByteArray := prog_9_method_3_code
def yX7_clear : MethodName := ⟨RX7, "clear", "()V"⟩
abbrev cX7_renew : ByteArray := prog_9_method_4_code
def yX7_renew : MethodName := ⟨RX7, "renew", "(II)V"⟩
abbrev cX7_hasCell : ByteArray := prog_9_method_5_code
def yX7_hasCell : MethodName := ⟨RX7, "hasCell", "(I)Z"⟩
abbrev cX7_hasCells : ByteArray := prog_9_method_6_code
def yX7_hasCells : MethodName := ⟨RX7, "hasCells", "(II)Z"⟩
abbrev cX7_faultOfLane : ByteArray := prog_9_method_7_code
def yX7_faultOfLane : MethodName := ⟨RX7, "faultOfLane", "(I)I"⟩
abbrev cX7_faultOfCells : ByteArray := prog_9_method_8_code
def yX7_faultOfCells : MethodName := ⟨RX7, "faultOfCells", "(III)I"⟩
abbrev cX7_read : ByteArray := prog_9_method_9_code
def yX7_read : MethodName := ⟨RX7, "read", "(I)I"⟩
abbrev cX7_write : ByteArray := prog_9_method_10_code
def yX7_write : MethodName := ⟨RX7, "write", "(II)V"⟩
def RX8 : String := "CorpseTales$Tale"
def TX8 : u_T := fun k => match k with
  | 0 => ("CorpseTales$Tale", "number", "I", true)
  | 1 => ("CorpseTales$Tale", "firstNeed", "I", true)
  | 2 => ("CorpseTales$Tale", "secondNeed", "I", true)
  | 3 => ("CorpseTales$Tale", "teaches", "I", true)
  | _ => ("CorpseTales$Tale", "length", "I", true)
def tyX8 : Nat → FieldType := fun k => match k with
  | 0 => .int
  | 1 => .int
  | 2 => .int
  | 3 => .int
  | _ => .int
abbrev wsX80 : List Cond := u_ws RX8 TX8 5
theorem nmX8 : ∀ a, a < 5 → ∀ b, b < 5 → a ≠ b → (TX8 a).2.1 ≠ (TX8 b).2.1 := by decide +kernel
theorem tyX8_ok : ∀ k, k < 5 → parseFieldDescriptor (TX8 k).2.2.1 = some (tyX8 k) := by decide +kernel
abbrev cX8_init : ByteArray := prog_10_method_1_code
def yX8_init : MethodName := ⟨RX8, "<init>", "(IIIII)V"⟩
abbrev cX8_kind : ByteArray := prog_10_method_2_code
def yX8_kind : MethodName := ⟨RX8, "kind", "()I"⟩
abbrev cX8_isAnswered : ByteArray := prog_10_method_3_code
def yX8_isAnswered : MethodName := ⟨RX8, "isAnswered", "(II)Z"⟩
abbrev cX8_hasEitherNeed : ByteArray := prog_10_method_4_code
def yX8_hasEitherNeed : MethodName := ⟨RX8, "hasEitherNeed", "(I)Z"⟩
abbrev cX8_oddsUnanswered : ByteArray := prog_10_method_5_code
def yX8_oddsUnanswered : MethodName := ⟨RX8, "oddsUnanswered", "(I)I"⟩
abbrev cX8_telling : ByteArray := prog_10_method_6_code
def yX8_telling : MethodName := ⟨RX8, "telling", "(LCorpseTales$Trace;)I"⟩
abbrev cX8_plainTelling : ByteArray := prog_10_method_7_code
def yX8_plainTelling : MethodName := ⟨RX8, "plainTelling", "(LCorpseTales$Trace;)I"⟩
abbrev cX8_whispering : ByteArray := prog_10_method_8_code
def yX8_whispering : MethodName := ⟨RX8, "whispering", "(LCorpseTales$Trace;)I"⟩
def RX9 : String := "CorpseTales$Trace"
def TX9 : u_T := fun k => match k with
  | _ => ("CorpseTales$Trace", "value", "I", false)
def tyX9 : Nat → FieldType := fun k => match k with
  | _ => .int
abbrev wsX90 : List Cond := u_ws RX9 TX9 1
theorem nmX9 : ∀ a, a < 1 → ∀ b, b < 1 → a ≠ b → (TX9 a).2.1 ≠ (TX9 b).2.1 := by decide +kernel
theorem tyX9_ok : ∀ k, k < 1 → parseFieldDescriptor (TX9 k).2.2.1 = some (tyX9 k) := by decide +kernel
abbrev cX9_init : ByteArray := prog_11_method_1_code
def yX9_init : MethodName := ⟨RX9, "<init>", "()V"⟩
abbrev cX9_leave : ByteArray := prog_11_method_2_code
def yX9_leave : MethodName := ⟨RX9, "leave", "(I)V"⟩
def RX10 : String := "CorpseTales"
def TX10 : u_T := fun k => match k with
  | 0 => ("CorpseTales", "forest", "LCorpseTales$Forest;", true)
  | 1 => ("CorpseTales", "known", "I", false)
  | 2 => ("CorpseTales", "believed", "I", false)
  | 3 => ("CorpseTales", "readings", "LCorpseTales$Readings;", true)
  | 4 => ("CorpseTales", "sheets", "[LCorpseTales$Sheet;", true)
  | 5 => ("CorpseTales", "traced", "LCorpseTales$Trace;", true)
  | 6 => ("CorpseTales", "latestFault", "I", false)
  | 7 => ("CorpseTales", "order", "[I", true)
  | 8 => ("CorpseTales", "orderLength", "I", false)
  | 9 => ("CorpseTales", "oneNight", "LCorpseTales$Night;", true)
  | 10 => ("CorpseTales", "nevers", "LCorpseTales$Never;", true)
  | _ => ("CorpseTales", "games", "LCorpseTales$Game;", true)
def tyX10 : Nat → FieldType := fun k => match k with
  | 0 => .object "CorpseTales$Forest"
  | 1 => .int
  | 2 => .int
  | 3 => .object "CorpseTales$Readings"
  | 4 => .array (.object "CorpseTales$Sheet")
  | 5 => .object "CorpseTales$Trace"
  | 6 => .int
  | 7 => .array .int
  | 8 => .int
  | 9 => .object "CorpseTales$Night"
  | 10 => .object "CorpseTales$Never"
  | _ => .object "CorpseTales$Game"
abbrev wsX100 : List Cond := u_ws RX10 TX10 12
theorem nmX10 : ∀ a, a < 12 → ∀ b, b < 12 → a ≠ b → (TX10 a).2.1 ≠ (TX10 b).2.1 := by decide +kernel
theorem tyX10_ok : ∀ k, k < 12 → parseFieldDescriptor (TX10 k).2.2.1 = some (tyX10 k) := by decide +kernel
abbrev cX10_init : ByteArray := prog_1_method_1_code
def yX10_init : MethodName := ⟨RX10, "<init>", "()V"⟩
abbrev cX10_forest : ByteArray := prog_1_method_2_code
def yX10_forest : MethodName := ⟨RX10, "forest", "(IIII)I"⟩
abbrev cX10_ofTale : ByteArray := prog_1_method_3_code
def yX10_ofTale : MethodName := ⟨RX10, "ofTale", "(II)I"⟩
abbrev cX10_know : ByteArray := prog_1_method_4_code
def yX10_know : MethodName := ⟨RX10, "know", "(IZ)I"⟩
abbrev cX10_believe : ByteArray := prog_1_method_5_code
def yX10_believe : MethodName := ⟨RX10, "believe", "(IZ)I"⟩
abbrev cX10_night : ByteArray := prog_1_method_6_code
def yX10_night : MethodName := ⟨RX10, "night", "(IIIII)I"⟩
abbrev cX10_comes : ByteArray := prog_1_method_7_code
def yX10_comes : MethodName := ⟨RX10, "comes", "(IIII)I"⟩
abbrev cX10_takeOrder : ByteArray := prog_1_method_8_code
def yX10_takeOrder : MethodName := ⟨RX10, "takeOrder", "(IIIII)I"⟩
abbrev cX10_passNight : ByteArray := prog_1_method_9_code
def yX10_passNight : MethodName := ⟨RX10, "passNight", "(I)V"⟩
abbrev cX10_never : ByteArray := prog_1_method_10_code
def yX10_never : MethodName := ⟨RX10, "never", "(II)I"⟩
abbrev cX10_study : ByteArray := prog_1_method_11_code
def yX10_study : MethodName := ⟨RX10, "study", "(IIII)I"⟩
abbrev cX10_game : ByteArray := prog_1_method_12_code
def yX10_game : MethodName := ⟨RX10, "game", "(I)I"⟩
abbrev cX10_porter : ByteArray := prog_1_method_13_code
def yX10_porter : MethodName := ⟨RX10, "porter", "(III)J"⟩
abbrev cX10_reading : ByteArray := prog_1_method_14_code
def yX10_reading : MethodName := ⟨RX10, "reading", "(III)I"⟩
abbrev cX10_back : ByteArray := prog_1_method_15_code
def yX10_back : MethodName := ⟨RX10, "back", "(I)I"⟩
abbrev cX10_fits : ByteArray := prog_1_method_16_code
def yX10_fits : MethodName := ⟨RX10, "fits", "(I)I"⟩
abbrev cX10_fitsReadings : ByteArray := prog_1_method_17_code
def yX10_fitsReadings : MethodName := ⟨RX10, "fitsReadings", "(I)Z"⟩
abbrev cX10_sheet : ByteArray := prog_1_method_18_code
def yX10_sheet : MethodName := ⟨RX10, "sheet", "(III)I"⟩
abbrev cX10_lose : ByteArray := prog_1_method_19_code
def yX10_lose : MethodName := ⟨RX10, "lose", "(I)I"⟩
abbrev cX10_put : ByteArray := prog_1_method_20_code
def yX10_put : MethodName := ⟨RX10, "put", "(III)I"⟩
abbrev cX10_cell : ByteArray := prog_1_method_21_code
def yX10_cell : MethodName := ⟨RX10, "cell", "(III)J"⟩
abbrev cX10_copy : ByteArray := prog_1_method_22_code
def yX10_copy : MethodName := ⟨RX10, "copy", "(IIIII)I"⟩
abbrev cX10_tell : ByteArray := prog_1_method_23_code
def yX10_tell : MethodName := ⟨RX10, "tell", "(I)I"⟩
abbrev cX10_whisper : ByteArray := prog_1_method_24_code
def yX10_whisper : MethodName := ⟨RX10, "whisper", "(I)I"⟩
abbrev cX10_as : ByteArray := prog_1_method_25_code
def yX10_as : MethodName := ⟨RX10, "as", "(II)I"⟩
abbrev cX10_trace : ByteArray := prog_1_method_26_code
def yX10_trace : MethodName := ⟨RX10, "trace", "()I"⟩
abbrev cX10_fault : ByteArray := prog_1_method_27_code
def yX10_fault : MethodName := ⟨RX10, "fault", "()I"⟩
abbrev cX10_many : ByteArray := prog_1_method_28_code
def yX10_many : MethodName := ⟨RX10, "many", "(I)I"⟩
abbrev cX10_sheetAt : ByteArray := prog_1_method_29_code
def yX10_sheetAt : MethodName := ⟨RX10, "sheetAt", "(I)LCorpseTales$Sheet;"⟩
abbrev cX10_failing : ByteArray := prog_1_method_30_code
def yX10_failing : MethodName := ⟨RX10, "failing", "(I)I"⟩
abbrev cX10_isWithin : ByteArray := prog_1_method_31_code
def yX10_isWithin : MethodName := ⟨RX10, "isWithin", "(III)Z"⟩
abbrev cX10_has : ByteArray := prog_1_method_32_code
def yX10_has : MethodName := ⟨RX10, "has", "(II)Z"⟩
abbrev cX10_isOfKind : ByteArray := prog_1_method_33_code
def yX10_isOfKind : MethodName := ⟨RX10, "isOfKind", "(LCorpseTales$Tale;I)Z"⟩
abbrev cX10_newNights : ByteArray := prog_1_method_34_code
def yX10_newNights : MethodName := ⟨RX10, "newNights", "(I)[LCorpseTales$Night;"⟩
def RX11 : String := "CorpseTalesModel"
def TX11 : u_T := fun k => match k with
  | 0 => ("CorpseTalesModel", "fault", "I", false)
  | 1 => ("CorpseTalesModel", "steps", "I", false)
  | 2 => ("CorpseTalesModel", "tales", "I", false)
  | 3 => ("CorpseTalesModel", "kindOf", "[I", true)
  | 4 => ("CorpseTalesModel", "needsOf", "[I", true)
  | 5 => ("CorpseTalesModel", "needsToo", "[I", true)
  | 6 => ("CorpseTalesModel", "teachesOf", "[I", true)
  | 7 => ("CorpseTalesModel", "longOf", "[I", true)
  | 8 => ("CorpseTalesModel", "known", "I", false)
  | 9 => ("CorpseTalesModel", "believed", "I", false)
  | 10 => ("CorpseTalesModel", "readAt", "I", false)
  | 11 => ("CorpseTalesModel", "readSteps", "I", false)
  | 12 => ("CorpseTalesModel", "readTales", "I", false)
  | 13 => ("CorpseTalesModel", "readKind", "[I", true)
  | 14 => ("CorpseTalesModel", "readNeeds", "[I", true)
  | 15 => ("CorpseTalesModel", "readToo", "[I", true)
  | 16 => ("CorpseTalesModel", "readTeaches", "[I", true)
  | 17 => ("CorpseTalesModel", "readLong", "[I", true)
  | 18 => ("CorpseTalesModel", "step", "I", false)
  | 19 => ("CorpseTalesModel", "knowsNow", "I", false)
  | 20 => ("CorpseTalesModel", "heardSet", "I", false)
  | 21 => ("CorpseTalesModel", "heard", "I", false)
  | 22 => ("CorpseTalesModel", "flights", "I", false)
  | 23 => ("CorpseTalesModel", "hasCome", "Z", false)
  | 24 => ("CorpseTalesModel", "row", "[I", true)
  | 25 => ("CorpseTalesModel", "bestRow", "[I", true)
  | 26 => ("CorpseTalesModel", "bestFlights", "I", false)
  | 27 => ("CorpseTalesModel", "stepAt", "[I", true)
  | 28 => ("CorpseTalesModel", "knowsAt", "[I", true)
  | 29 => ("CorpseTalesModel", "toldAt", "[I", true)
  | 30 => ("CorpseTalesModel", "taleAt", "[I", true)
  | 31 => ("CorpseTalesModel", "harksAt", "[I", true)
  | 32 => ("CorpseTalesModel", "mostAt", "[I", true)
  | 33 => ("CorpseTalesModel", "leastAt", "[I", true)
  | 34 => ("CorpseTalesModel", "readings", "I", false)
  | 35 => ("CorpseTalesModel", "readingOf", "[I", true)
  | 36 => ("CorpseTalesModel", "readingToo", "[I", true)
  | 37 => ("CorpseTalesModel", "readingFar", "[I", true)
  | 38 => ("CorpseTalesModel", "sheetSize", "[I", true)
  | 39 => ("CorpseTalesModel", "sheetLane", "[I", true)
  | 40 => ("CorpseTalesModel", "sheet", "[I", true)
  | 41 => ("CorpseTalesModel", "hands", "[I", true)
  | _ => ("CorpseTalesModel", "traceNow", "I", false)
def tyX11 : Nat → FieldType := fun k => match k with
  | 0 => .int
  | 1 => .int
  | 2 => .int
  | 3 => .array .int
  | 4 => .array .int
  | 5 => .array .int
  | 6 => .array .int
  | 7 => .array .int
  | 8 => .int
  | 9 => .int
  | 10 => .int
  | 11 => .int
  | 12 => .int
  | 13 => .array .int
  | 14 => .array .int
  | 15 => .array .int
  | 16 => .array .int
  | 17 => .array .int
  | 18 => .int
  | 19 => .int
  | 20 => .int
  | 21 => .int
  | 22 => .int
  | 23 => .boolean
  | 24 => .array .int
  | 25 => .array .int
  | 26 => .int
  | 27 => .array .int
  | 28 => .array .int
  | 29 => .array .int
  | 30 => .array .int
  | 31 => .array .int
  | 32 => .array .int
  | 33 => .array .int
  | 34 => .int
  | 35 => .array .int
  | 36 => .array .int
  | 37 => .array .int
  | 38 => .array .int
  | 39 => .array .int
  | 40 => .array .int
  | 41 => .array .int
  | _ => .int
abbrev wsX110 : List Cond := u_ws RX11 TX11 43
theorem nmX11 : ∀ a, a < 43 → ∀ b, b < 43 → a ≠ b → (TX11 a).2.1 ≠ (TX11 b).2.1 := by decide +kernel
theorem tyX11_ok : ∀ k, k < 43 → parseFieldDescriptor (TX11 k).2.2.1 = some (tyX11 k) := by decide +kernel
abbrev cX11_init : ByteArray := prog_13_method_1_code
def yX11_init : MethodName := ⟨RX11, "<init>", "()V"⟩
abbrev cX11_in : ByteArray := prog_13_method_2_code
def yX11_in : MethodName := ⟨RX11, "in", "(JJJ)Z"⟩
abbrev cX11_lost : ByteArray := prog_13_method_3_code
def yX11_lost : MethodName := ⟨RX11, "lost", "()J"⟩
abbrev cX11_isIn : ByteArray := prog_13_method_4_code
def yX11_isIn : MethodName := ⟨RX11, "isIn", "(II)Z"⟩
abbrev cX11_bits : ByteArray := prog_13_method_5_code
def yX11_bits : MethodName := ⟨RX11, "bits", "(I)I"⟩
abbrev cX11_told : ByteArray := prog_13_method_6_code
def yX11_told : MethodName := ⟨RX11, "told", "(JJI)J"⟩
abbrev cX11_refused : ByteArray := prog_13_method_7_code
def yX11_refused : MethodName := ⟨RX11, "refused", "(I)I"⟩
abbrev cX11_failed : ByteArray := prog_13_method_8_code
def yX11_failed : MethodName := ⟨RX11, "failed", "(I)I"⟩
abbrev cX11_failedLong : ByteArray := prog_13_method_9_code
def yX11_failedLong : MethodName := ⟨RX11, "failedLong", "(I)J"⟩
abbrev cX11_noTale : ByteArray := prog_13_method_10_code
def yX11_noTale : MethodName := ⟨RX11, "noTale", "(I)Z"⟩
abbrev cX11_codeAt : ByteArray := prog_13_method_11_code
def yX11_codeAt : MethodName := ⟨RX11, "codeAt", "(II)I"⟩
abbrev cX11_figure : ByteArray := prog_13_method_12_code
def yX11_figure : MethodName := ⟨RX11, "figure", "(IIII)I"⟩
abbrev cX11_readsTale : ByteArray := prog_13_method_13_code
def yX11_readsTale : MethodName := ⟨RX11, "readsTale", "(II)Z"⟩
abbrev cX11_readsForest : ByteArray := prog_13_method_14_code
def yX11_readsForest : MethodName := ⟨RX11, "readsForest", "(II)Z"⟩
abbrev cX11_cellsBarred : ByteArray := prog_13_method_15_code
def yX11_cellsBarred : MethodName := ⟨RX11, "cellsBarred", "(IIIJ)I"⟩
abbrev cX11_forest : ByteArray := prog_13_method_16_code
def yX11_forest : MethodName := ⟨RX11, "forest", "(IIII)I"⟩
abbrev cX11_hasAnswer : ByteArray := prog_13_method_17_code
def yX11_hasAnswer : MethodName := ⟨RX11, "hasAnswer", "(III)Z"⟩
abbrev cX11_ofTale : ByteArray := prog_13_method_18_code
def yX11_ofTale : MethodName := ⟨RX11, "ofTale", "(II)I"⟩
abbrev cX11_know : ByteArray := prog_13_method_19_code
def yX11_know : MethodName := ⟨RX11, "know", "(IZ)I"⟩
abbrev cX11_believe : ByteArray := prog_13_method_20_code
def yX11_believe : MethodName := ⟨RX11, "believe", "(IZ)I"⟩
abbrev cX11_beginNight : ByteArray := prog_13_method_21_code
def yX11_beginNight : MethodName := ⟨RX11, "beginNight", "(I)V"⟩
abbrev cX11_goSteps : ByteArray := prog_13_method_22_code
def yX11_goSteps : MethodName := ⟨RX11, "goSteps", "(I)V"⟩
abbrev cX11_goTale : ByteArray := prog_13_method_23_code
def yX11_goTale : MethodName := ⟨RX11, "goTale", "(I)Z"⟩
abbrev cX11_goHeard : ByteArray := prog_13_method_24_code
def yX11_goHeard : MethodName := ⟨RX11, "goHeard", "(I)V"⟩
abbrev cX11_goOrder : ByteArray := prog_13_method_25_code
def yX11_goOrder : MethodName := ⟨RX11, "goOrder", "(III)V"⟩
abbrev cX11_orderBarred : ByteArray := prog_13_method_26_code
def yX11_orderBarred : MethodName := ⟨RX11, "orderBarred", "(IIII)I"⟩
abbrev cX11_night : ByteArray := prog_13_method_27_code
def yX11_night : MethodName := ⟨RX11, "night", "(IIIII)I"⟩
abbrev cX11_comes : ByteArray := prog_13_method_28_code
def yX11_comes : MethodName := ⟨RX11, "comes", "(IIII)I"⟩
abbrev cX11_isUsed : ByteArray := prog_13_method_29_code
def yX11_isUsed : MethodName := ⟨RX11, "isUsed", "(II)Z"⟩
abbrev cX11_lookAtRow : ByteArray := prog_13_method_30_code
def yX11_lookAtRow : MethodName := ⟨RX11, "lookAtRow", "(I)V"⟩
abbrev cX11_seekNever : ByteArray := prog_13_method_31_code
def yX11_seekNever : MethodName := ⟨RX11, "seekNever", "(I)V"⟩
abbrev cX11_never : ByteArray := prog_13_method_32_code
def yX11_never : MethodName := ⟨RX11, "never", "(II)I"⟩
abbrev cX11_study : ByteArray := prog_13_method_33_code
def yX11_study : MethodName := ⟨RX11, "study", "(IIII)I"⟩
abbrev cX11_nextWay : ByteArray := prog_13_method_34_code
def yX11_nextWay : MethodName := ⟨RX11, "nextWay", "(I)I"⟩
abbrev cX11_goWay : ByteArray := prog_13_method_35_code
def yX11_goWay : MethodName := ⟨RX11, "goWay", "(I)V"⟩
abbrev cX11_play : ByteArray := prog_13_method_36_code
def yX11_play : MethodName := ⟨RX11, "play", "(I)I"⟩
abbrev cX11_game : ByteArray := prog_13_method_37_code
def yX11_game : MethodName := ⟨RX11, "game", "(I)I"⟩
abbrev cX11_porter : ByteArray := prog_13_method_38_code
def yX11_porter : MethodName := ⟨RX11, "porter", "(III)J"⟩
abbrev cX11_reading : ByteArray := prog_13_method_39_code
def yX11_reading : MethodName := ⟨RX11, "reading", "(III)I"⟩
abbrev cX11_back : ByteArray := prog_13_method_40_code
def yX11_back : MethodName := ⟨RX11, "back", "(I)I"⟩
abbrev cX11_areSo : ByteArray := prog_13_method_41_code
def yX11_areSo : MethodName := ⟨RX11, "areSo", "(I)Z"⟩
abbrev cX11_fits : ByteArray := prog_13_method_42_code
def yX11_fits : MethodName := ⟨RX11, "fits", "(I)I"⟩
abbrev cX11_noSheet : ByteArray := prog_13_method_43_code
def yX11_noSheet : MethodName := ⟨RX11, "noSheet", "(I)Z"⟩
abbrev cX11_sheet : ByteArray := prog_13_method_44_code
def yX11_sheet : MethodName := ⟨RX11, "sheet", "(III)I"⟩
abbrev cX11_lose : ByteArray := prog_13_method_45_code
def yX11_lose : MethodName := ⟨RX11, "lose", "(I)I"⟩
abbrev cX11_noCell : ByteArray := prog_13_method_46_code
def yX11_noCell : MethodName := ⟨RX11, "noCell", "(II)I"⟩
abbrev cX11_put : ByteArray := prog_13_method_47_code
def yX11_put : MethodName := ⟨RX11, "put", "(III)I"⟩
abbrev cX11_cell : ByteArray := prog_13_method_48_code
def yX11_cell : MethodName := ⟨RX11, "cell", "(III)J"⟩
abbrev cX11_isBeyond : ByteArray := prog_13_method_49_code
def yX11_isBeyond : MethodName := ⟨RX11, "isBeyond", "(IJI)Z"⟩
abbrev cX11_copy : ByteArray := prog_13_method_50_code
def yX11_copy : MethodName := ⟨RX11, "copy", "(IIIII)I"⟩
abbrev cX11_traced : ByteArray := prog_13_method_51_code
def yX11_traced : MethodName := ⟨RX11, "traced", "(I)V"⟩
abbrev cX11_tell : ByteArray := prog_13_method_52_code
def yX11_tell : MethodName := ⟨RX11, "tell", "(I)I"⟩
abbrev cX11_whisper : ByteArray := prog_13_method_53_code
def yX11_whisper : MethodName := ⟨RX11, "whisper", "(I)I"⟩
abbrev cX11_as : ByteArray := prog_13_method_54_code
def yX11_as : MethodName := ⟨RX11, "as", "(II)I"⟩
abbrev cX11_trace : ByteArray := prog_13_method_55_code
def yX11_trace : MethodName := ⟨RX11, "trace", "()I"⟩
abbrev cX11_fault : ByteArray := prog_13_method_56_code
def yX11_fault : MethodName := ⟨RX11, "fault", "()I"⟩
abbrev cX11_many : ByteArray := prog_13_method_57_code
def yX11_many : MethodName := ⟨RX11, "many", "(I)I"⟩
def RJ6 : String := "java/lang/Integer"
def TJ6 : u_T := fun k => match k with
  | _ => ("", "", "", false)
def tyJ6 : Nat → FieldType := fun k => match k with
  | _ => .int
abbrev wsJ60 : List Cond := u_ws RJ6 TJ6 0
theorem nmJ6 : ∀ a, a < 0 → ∀ b, b < 0 → a ≠ b → (TJ6 a).2.1 ≠ (TJ6 b).2.1 := by decide +kernel
theorem tyJ6_ok : ∀ k, k < 0 → parseFieldDescriptor (TJ6 k).2.2.1 = some (tyJ6 k) := by decide +kernel
abbrev cJ6_bitCount_0f7a4 : ByteArray := prog_14_method_49_code
def yJ6_bitCount_0f7a4 : MethodName := ⟨RJ6, "bitCount", "(I)I"⟩
def RJ9 : String := "java/lang/Math"
def TJ9 : u_T := fun k => match k with
  | _ => ("", "", "", false)
def tyJ9 : Nat → FieldType := fun k => match k with
  | _ => .int
abbrev wsJ90 : List Cond := u_ws RJ9 TJ9 0
theorem nmJ9 : ∀ a, a < 0 → ∀ b, b < 0 → a ≠ b → (TJ9 a).2.1 ≠ (TJ9 b).2.1 := by decide +kernel
theorem tyJ9_ok : ∀ k, k < 0 → parseFieldDescriptor (TJ9 k).2.2.1 = some (tyJ9 k) := by decide +kernel
abbrev cJ9_max_7cf53 : ByteArray := prog_15_method_65_code
def yJ9_max_7cf53 : MethodName := ⟨RJ9, "max", "(II)I"⟩
abbrev cJ9_min_7cf53 : ByteArray := prog_15_method_69_code
def yJ9_min_7cf53 : MethodName := ⟨RJ9, "min", "(II)I"⟩
def RJ10 : String := "java/lang/System"
def TJ10 : u_T := fun k => match k with
  | _ => ("", "", "", false)
def tyJ10 : Nat → FieldType := fun k => match k with
  | _ => .int
abbrev wsJ100 : List Cond := u_ws RJ10 TJ10 0
theorem nmJ10 : ∀ a, a < 0 → ∀ b, b < 0 → a ≠ b → (TJ10 a).2.1 ≠ (TJ10 b).2.1 := by decide +kernel
theorem tyJ10_ok : ∀ k, k < 0 → parseFieldDescriptor (TJ10 k).2.2.1 = some (tyJ10 k) := by decide +kernel
def RJ7 : String := "java/util/Arrays"
def TJ7 : u_T := fun k => match k with
  | _ => ("", "", "", false)
def tyJ7 : Nat → FieldType := fun k => match k with
  | _ => .int
abbrev wsJ70 : List Cond := u_ws RJ7 TJ7 0
theorem nmJ7 : ∀ a, a < 0 → ∀ b, b < 0 → a ≠ b → (TJ7 a).2.1 ≠ (TJ7 b).2.1 := by decide +kernel
theorem tyJ7_ok : ∀ k, k < 0 → parseFieldDescriptor (TJ7 k).2.2.1 = some (tyJ7 k) := by decide +kernel
abbrev cJ7_fill_53178 : ByteArray := prog_17_method_103_code
def yJ7_fill_53178 : MethodName := ⟨RJ7, "fill", "([II)V"⟩
def RL : String := "CorpseTalesLaw"
abbrev cL_law : ByteArray := code
def yL_law : MethodName := ⟨RL, "law", "([I)Z"⟩
abbrev vwCl : List vw_C := [(RX0, TX0, 5), (RX1, TX1, 3), (RX2, TX2, 2), (RX3, TX3, 5), (RX4, TX4, 8), (RX5, TX5, 5), (RX6, TX6, 4), (RX7, TX7, 3), (RX8, TX8, 5), (RX9, TX9, 1), (RX10, TX10, 12), (RX11, TX11, 43)]
