theorem e_X11_trace {d : Nat} {h : zH} {a : Nat} : zcall (zP zM) (d + 1) 140 [.inr (.inr (some a))] h = zX d tb_X11_trace 0 [some (.inr (.inr (some a)))] [] h := (zcall_succ _ _ _ _ _).trans (if_pos (Nat.le_of_ble_eq_true rfl))
theorem u_X11_trace_0 {d : Nat} {st : List zV} {h : zH} {x : (Option Nat)} : zX d tb_X11_trace 0 [some (.inr (.inr x))] st h = zX d tb_X11_trace 1 [some (.inr (.inr x))] (.inr (.inr x) :: st) h := (zX_unf (o := (.aload_n 0, 1, 0, [])) rfl).trans rfl
theorem u_X11_trace_1 {d : Nat} {ls : zL} {st : List zV} {h : zH} {a : Nat} : zX d tb_X11_trace 1 ls (.inr (.inr (some a)) :: st) h = if 11 = (zk h a).1 then zX d tb_X11_trace 4 ls (.inl (zi h a 42) :: st) h else none := (ux_get (t := [(11, 42, 0, "", "")]) rfl (by decide)).trans (zfb_1 _ _)
theorem u_X11_trace_4 {d : Nat} {ls : zL} {h : zH} {v : Int32} : zX d tb_X11_trace 4 ls [.inl v] h = some (some (.inl v), h) := (zX_unf (o := (.ireturn, 1, 0, [])) rfl).trans rfl
theorem e_X11_fault {d : Nat} {h : zH} {a : Nat} : zcall (zP zM) (d + 1) 141 [.inr (.inr (some a))] h = zX d tb_X11_fault 0 [some (.inr (.inr (some a)))] [] h := (zcall_succ _ _ _ _ _).trans (if_pos (Nat.le_of_ble_eq_true rfl))
theorem u_X11_fault_0 {d : Nat} {st : List zV} {h : zH} {x : (Option Nat)} : zX d tb_X11_fault 0 [some (.inr (.inr x))] st h = zX d tb_X11_fault 1 [some (.inr (.inr x))] (.inr (.inr x) :: st) h := (zX_unf (o := (.aload_n 0, 1, 0, [])) rfl).trans rfl
theorem u_X11_fault_1 {d : Nat} {ls : zL} {st : List zV} {h : zH} {a : Nat} : zX d tb_X11_fault 1 ls (.inr (.inr (some a)) :: st) h = if 11 = (zk h a).1 then zX d tb_X11_fault 4 ls (.inl (zi h a 0) :: st) h else none := (ux_get (t := [(11, 0, 0, "", "")]) rfl (by decide)).trans (zfb_1 _ _)
theorem u_X11_fault_4 {d : Nat} {ls : zL} {h : zH} {v : Int32} : zX d tb_X11_fault 4 ls [.inl v] h = some (some (.inl v), h) := (zX_unf (o := (.ireturn, 1, 0, [])) rfl).trans rfl
theorem e_X11_many {d : Nat} {h : zH} {v0 : Int32} {a : Nat} : zcall (zP zM) (d + 1) 142 [.inr (.inr (some a)), .inl v0] h = zX d tb_X11_many 0 [some (.inr (.inr (some a))), some (.inl v0)] [] h := (zcall_succ _ _ _ _ _).trans (if_pos (Nat.le_of_ble_eq_true rfl))
theorem u_X11_many_0 {d : Nat} {st : List zV} {h : zH} {l0 : Option zV} {x : Int32} : zX d tb_X11_many 0 [l0, some (.inl x)] st h = zX d tb_X11_many 1 [l0, some (.inl x)] (.inl x :: st) h := (zX_unf (o := (.iload_n 1, 1, 0, [])) rfl).trans rfl
theorem u_X11_many_1 {d : Nat} {ls : zL} {st : List zV} {h : zH} {x : Int32} : zX d tb_X11_many 1 ls (.inl x :: st) h = if x = 0 then zX d tb_X11_many 36 ls st h else if x = 1 then zX d tb_X11_many 41 ls st h else if x = 2 then zX d tb_X11_many 46 ls st h else if x = 3 then zX d tb_X11_many 51 ls st h else if x = 4 then zX d tb_X11_many 56 ls st h else zX d tb_X11_many 61 ls st h := by
  by_cases q0 : x = 0
  · subst q0
    rw [zX_unf (o := (.tableswitch 60 0 4 #[35, 40, 45, 50, 55], 35, 0, [])) rfl]
    rfl
  by_cases q1 : x = 1
  · subst q1
    rw [zX_unf (o := (.tableswitch 60 0 4 #[35, 40, 45, 50, 55], 35, 0, [])) rfl]
    rfl
  by_cases q2 : x = 2
  · subst q2
    rw [zX_unf (o := (.tableswitch 60 0 4 #[35, 40, 45, 50, 55], 35, 0, [])) rfl]
    rfl
  by_cases q3 : x = 3
  · subst q3
    rw [zX_unf (o := (.tableswitch 60 0 4 #[35, 40, 45, 50, 55], 35, 0, [])) rfl]
    rfl
  by_cases q4 : x = 4
  · subst q4
    rw [zX_unf (o := (.tableswitch 60 0 4 #[35, 40, 45, 50, 55], 35, 0, [])) rfl]
    rfl
  rw [if_neg q0, if_neg q1, if_neg q2, if_neg q3, if_neg q4]
  have z0 : x.toInt ≠ 0 := fun z => q0 (Int32.toInt_inj.mp (by rw [z]; decide))
  have z1 : x.toInt ≠ 1 := fun z => q1 (Int32.toInt_inj.mp (by rw [z]; decide))
  have z2 : x.toInt ≠ 2 := fun z => q2 (Int32.toInt_inj.mp (by rw [z]; decide))
  have z3 : x.toInt ≠ 3 := fun z => q3 (Int32.toInt_inj.mp (by rw [z]; decide))
  have z4 : x.toInt ≠ 4 := fun z => q4 (Int32.toInt_inj.mp (by rw [z]; decide))
  have hz : x.toInt < 0 ∨ 4 < x.toInt := by omega
  rw [zX_unf (o := (.tableswitch 60 0 4 #[35, 40, 45, 50, 55], 35, 0, [])) rfl]
  simp only [zstp, ztab, hz, if_true]
  rfl
theorem u_X11_many_36 {d : Nat} {st : List zV} {h : zH} {l1 : Option zV} {x : (Option Nat)} : zX d tb_X11_many 36 [some (.inr (.inr x)), l1] st h = zX d tb_X11_many 37 [some (.inr (.inr x)), l1] (.inr (.inr x) :: st) h := (zX_unf (o := (.aload_n 0, 1, 0, [])) rfl).trans rfl
theorem u_X11_many_37 {d : Nat} {ls : zL} {st : List zV} {h : zH} {a : Nat} : zX d tb_X11_many 37 ls (.inr (.inr (some a)) :: st) h = if 11 = (zk h a).1 then zX d tb_X11_many 40 ls (.inl (zi h a 2) :: st) h else none := (ux_get (t := [(11, 2, 0, "", "")]) rfl (by decide)).trans (zfb_1 _ _)
theorem u_X11_many_40 {d : Nat} {ls : zL} {h : zH} {v : Int32} : zX d tb_X11_many 40 ls [.inl v] h = some (some (.inl v), h) := (zX_unf (o := (.ireturn, 1, 0, [])) rfl).trans rfl
theorem u_X11_many_41 {d : Nat} {st : List zV} {h : zH} {l1 : Option zV} {x : (Option Nat)} : zX d tb_X11_many 41 [some (.inr (.inr x)), l1] st h = zX d tb_X11_many 42 [some (.inr (.inr x)), l1] (.inr (.inr x) :: st) h := (zX_unf (o := (.aload_n 0, 1, 0, [])) rfl).trans rfl
theorem u_X11_many_42 {d : Nat} {ls : zL} {st : List zV} {h : zH} {a : Nat} : zX d tb_X11_many 42 ls (.inr (.inr (some a)) :: st) h = if 11 = (zk h a).1 then zX d tb_X11_many 45 ls (.inl (zi h a 1) :: st) h else none := (ux_get (t := [(11, 1, 0, "", "")]) rfl (by decide)).trans (zfb_1 _ _)
theorem u_X11_many_45 {d : Nat} {ls : zL} {h : zH} {v : Int32} : zX d tb_X11_many 45 ls [.inl v] h = some (some (.inl v), h) := (zX_unf (o := (.ireturn, 1, 0, [])) rfl).trans rfl
theorem u_X11_many_46 {d : Nat} {st : List zV} {h : zH} {l1 : Option zV} {x : (Option Nat)} : zX d tb_X11_many 46 [some (.inr (.inr x)), l1] st h = zX d tb_X11_many 47 [some (.inr (.inr x)), l1] (.inr (.inr x) :: st) h := (zX_unf (o := (.aload_n 0, 1, 0, [])) rfl).trans rfl
theorem u_X11_many_47 {d : Nat} {ls : zL} {st : List zV} {h : zH} {a : Nat} : zX d tb_X11_many 47 ls (.inr (.inr (some a)) :: st) h = if 11 = (zk h a).1 then zX d tb_X11_many 50 ls (.inl (zi h a 8) :: st) h else none := (ux_get (t := [(11, 8, 0, "", "")]) rfl (by decide)).trans (zfb_1 _ _)
theorem u_X11_many_50 {d : Nat} {ls : zL} {h : zH} {v : Int32} : zX d tb_X11_many 50 ls [.inl v] h = some (some (.inl v), h) := (zX_unf (o := (.ireturn, 1, 0, [])) rfl).trans rfl
theorem u_X11_many_51 {d : Nat} {st : List zV} {h : zH} {l1 : Option zV} {x : (Option Nat)} : zX d tb_X11_many 51 [some (.inr (.inr x)), l1] st h = zX d tb_X11_many 52 [some (.inr (.inr x)), l1] (.inr (.inr x) :: st) h := (zX_unf (o := (.aload_n 0, 1, 0, [])) rfl).trans rfl
theorem u_X11_many_52 {d : Nat} {ls : zL} {st : List zV} {h : zH} {a : Nat} : zX d tb_X11_many 52 ls (.inr (.inr (some a)) :: st) h = if 11 = (zk h a).1 then zX d tb_X11_many 55 ls (.inl (zi h a 9) :: st) h else none := (ux_get (t := [(11, 9, 0, "", "")]) rfl (by decide)).trans (zfb_1 _ _)
theorem u_X11_many_55 {d : Nat} {ls : zL} {h : zH} {v : Int32} : zX d tb_X11_many 55 ls [.inl v] h = some (some (.inl v), h) := (zX_unf (o := (.ireturn, 1, 0, [])) rfl).trans rfl
theorem u_X11_many_56 {d : Nat} {st : List zV} {h : zH} {l1 : Option zV} {x : (Option Nat)} : zX d tb_X11_many 56 [some (.inr (.inr x)), l1] st h = zX d tb_X11_many 57 [some (.inr (.inr x)), l1] (.inr (.inr x) :: st) h := (zX_unf (o := (.aload_n 0, 1, 0, [])) rfl).trans rfl
theorem u_X11_many_57 {d : Nat} {ls : zL} {st : List zV} {h : zH} {a : Nat} : zX d tb_X11_many 57 ls (.inr (.inr (some a)) :: st) h = if 11 = (zk h a).1 then zX d tb_X11_many 60 ls (.inl (zi h a 34) :: st) h else none := (ux_get (t := [(11, 34, 0, "", "")]) rfl (by decide)).trans (zfb_1 _ _)
theorem u_X11_many_60 {d : Nat} {ls : zL} {h : zH} {v : Int32} : zX d tb_X11_many 60 ls [.inl v] h = some (some (.inl v), h) := (zX_unf (o := (.ireturn, 1, 0, [])) rfl).trans rfl
theorem u_X11_many_61 {d : Nat} {ls : zL} {st : List zV} {h : zH} : zX d tb_X11_many 61 ls st h = zX d tb_X11_many 63 ls (.inl (-2) :: st) h := (zX_unf (o := (.bipush (-2), 2, 0, [])) rfl).trans rfl
theorem u_X11_many_63 {d : Nat} {ls : zL} {h : zH} {v : Int32} : zX d tb_X11_many 63 ls [.inl v] h = some (some (.inl v), h) := (zX_unf (o := (.ireturn, 1, 0, [])) rfl).trans rfl
theorem e_J6_bitCount_0f7a4 {d : Nat} {h : zH} {v0 : Int32} : zcall (zP zM) (d + 1) 143 [.inl v0] h = zX d tb_J6_bitCount_0f7a4 0 [some (.inl v0)] [] h := (zcall_succ _ _ _ _ _).trans (if_pos (Nat.le_of_ble_eq_true rfl))
theorem u_J6_bitCount_0f7a4_0 {d : Nat} {st : List zV} {h : zH} {x : Int32} : zX d tb_J6_bitCount_0f7a4 0 [some (.inl x)] st h = zX d tb_J6_bitCount_0f7a4 1 [some (.inl x)] (.inl x :: st) h := (zX_unf (o := (.iload_n 0, 1, 0, [])) rfl).trans rfl
theorem u_J6_bitCount_0f7a4_1 {d : Nat} {st : List zV} {h : zH} {x : Int32} : zX d tb_J6_bitCount_0f7a4 1 [some (.inl x)] st h = zX d tb_J6_bitCount_0f7a4 2 [some (.inl x)] (.inl x :: st) h := (zX_unf (o := (.iload_n 0, 1, 0, [])) rfl).trans rfl
theorem u_J6_bitCount_0f7a4_2 {d : Nat} {ls : zL} {st : List zV} {h : zH} : zX d tb_J6_bitCount_0f7a4 2 ls st h = zX d tb_J6_bitCount_0f7a4 3 ls (.inl 1 :: st) h := (zX_unf (o := (.iconst 1, 1, 0, [])) rfl).trans rfl
theorem u_J6_bitCount_0f7a4_3 {d : Nat} {ls : zL} {st : List zV} {h : zH} {x y : Int32} : zX d tb_J6_bitCount_0f7a4 3 ls (.inl y :: .inl x :: st) h = zX d tb_J6_bitCount_0f7a4 4 ls (.inl ((x.toUInt32 >>> (y.toUInt32 &&& Int32.toUInt32 31)).toInt32) :: st) h := (zX_unf (o := (.iushr, 1, 0, [])) rfl).trans rfl
theorem u_J6_bitCount_0f7a4_4 {d : Nat} {ls : zL} {st : List zV} {h : zH} : zX d tb_J6_bitCount_0f7a4 4 ls st h = zX d tb_J6_bitCount_0f7a4 7 ls (.inl 1431655765 :: st) h := (zX_unf (o := (.ldc_w 265, 3, 1431655765, [])) rfl).trans rfl
theorem u_J6_bitCount_0f7a4_7 {d : Nat} {ls : zL} {st : List zV} {h : zH} {x y : Int32} : zX d tb_J6_bitCount_0f7a4 7 ls (.inl y :: .inl x :: st) h = zX d tb_J6_bitCount_0f7a4 8 ls (.inl (x &&& y) :: st) h := (zX_unf (o := (.iand, 1, 0, [])) rfl).trans rfl
theorem u_J6_bitCount_0f7a4_8 {d : Nat} {ls : zL} {st : List zV} {h : zH} {x y : Int32} : zX d tb_J6_bitCount_0f7a4 8 ls (.inl y :: .inl x :: st) h = zX d tb_J6_bitCount_0f7a4 9 ls (.inl (x - y) :: st) h := (zX_unf (o := (.isub, 1, 0, [])) rfl).trans rfl
theorem u_J6_bitCount_0f7a4_9 {d : Nat} {st : List zV} {h : zH} {l0 : Option zV} {x : Int32} : zX d tb_J6_bitCount_0f7a4 9 [l0] (.inl x :: st) h = zX d tb_J6_bitCount_0f7a4 10 [some (.inl x)] st h := (zX_unf (o := (.istore_n 0, 1, 0, [])) rfl).trans rfl
theorem u_J6_bitCount_0f7a4_10 {d : Nat} {st : List zV} {h : zH} {x : Int32} : zX d tb_J6_bitCount_0f7a4 10 [some (.inl x)] st h = zX d tb_J6_bitCount_0f7a4 11 [some (.inl x)] (.inl x :: st) h := (zX_unf (o := (.iload_n 0, 1, 0, [])) rfl).trans rfl
theorem u_J6_bitCount_0f7a4_11 {d : Nat} {ls : zL} {st : List zV} {h : zH} : zX d tb_J6_bitCount_0f7a4 11 ls st h = zX d tb_J6_bitCount_0f7a4 14 ls (.inl 858993459 :: st) h := (zX_unf (o := (.ldc_w 266, 3, 858993459, [])) rfl).trans rfl
theorem u_J6_bitCount_0f7a4_14 {d : Nat} {ls : zL} {st : List zV} {h : zH} {x y : Int32} : zX d tb_J6_bitCount_0f7a4 14 ls (.inl y :: .inl x :: st) h = zX d tb_J6_bitCount_0f7a4 15 ls (.inl (x &&& y) :: st) h := (zX_unf (o := (.iand, 1, 0, [])) rfl).trans rfl
theorem u_J6_bitCount_0f7a4_15 {d : Nat} {st : List zV} {h : zH} {x : Int32} : zX d tb_J6_bitCount_0f7a4 15 [some (.inl x)] st h = zX d tb_J6_bitCount_0f7a4 16 [some (.inl x)] (.inl x :: st) h := (zX_unf (o := (.iload_n 0, 1, 0, [])) rfl).trans rfl
theorem u_J6_bitCount_0f7a4_16 {d : Nat} {ls : zL} {st : List zV} {h : zH} : zX d tb_J6_bitCount_0f7a4 16 ls st h = zX d tb_J6_bitCount_0f7a4 17 ls (.inl 2 :: st) h := (zX_unf (o := (.iconst 2, 1, 0, [])) rfl).trans rfl
theorem u_J6_bitCount_0f7a4_17 {d : Nat} {ls : zL} {st : List zV} {h : zH} {x y : Int32} : zX d tb_J6_bitCount_0f7a4 17 ls (.inl y :: .inl x :: st) h = zX d tb_J6_bitCount_0f7a4 18 ls (.inl ((x.toUInt32 >>> (y.toUInt32 &&& Int32.toUInt32 31)).toInt32) :: st) h := (zX_unf (o := (.iushr, 1, 0, [])) rfl).trans rfl
theorem u_J6_bitCount_0f7a4_18 {d : Nat} {ls : zL} {st : List zV} {h : zH} : zX d tb_J6_bitCount_0f7a4 18 ls st h = zX d tb_J6_bitCount_0f7a4 21 ls (.inl 858993459 :: st) h := (zX_unf (o := (.ldc_w 266, 3, 858993459, [])) rfl).trans rfl
theorem u_J6_bitCount_0f7a4_21 {d : Nat} {ls : zL} {st : List zV} {h : zH} {x y : Int32} : zX d tb_J6_bitCount_0f7a4 21 ls (.inl y :: .inl x :: st) h = zX d tb_J6_bitCount_0f7a4 22 ls (.inl (x &&& y) :: st) h := (zX_unf (o := (.iand, 1, 0, [])) rfl).trans rfl
theorem u_J6_bitCount_0f7a4_22 {d : Nat} {ls : zL} {st : List zV} {h : zH} {x y : Int32} : zX d tb_J6_bitCount_0f7a4 22 ls (.inl y :: .inl x :: st) h = zX d tb_J6_bitCount_0f7a4 23 ls (.inl (x + y) :: st) h := (zX_unf (o := (.iadd, 1, 0, [])) rfl).trans rfl
theorem u_J6_bitCount_0f7a4_23 {d : Nat} {st : List zV} {h : zH} {l0 : Option zV} {x : Int32} : zX d tb_J6_bitCount_0f7a4 23 [l0] (.inl x :: st) h = zX d tb_J6_bitCount_0f7a4 24 [some (.inl x)] st h := (zX_unf (o := (.istore_n 0, 1, 0, [])) rfl).trans rfl
theorem u_J6_bitCount_0f7a4_24 {d : Nat} {st : List zV} {h : zH} {x : Int32} : zX d tb_J6_bitCount_0f7a4 24 [some (.inl x)] st h = zX d tb_J6_bitCount_0f7a4 25 [some (.inl x)] (.inl x :: st) h := (zX_unf (o := (.iload_n 0, 1, 0, [])) rfl).trans rfl
theorem u_J6_bitCount_0f7a4_25 {d : Nat} {st : List zV} {h : zH} {x : Int32} : zX d tb_J6_bitCount_0f7a4 25 [some (.inl x)] st h = zX d tb_J6_bitCount_0f7a4 26 [some (.inl x)] (.inl x :: st) h := (zX_unf (o := (.iload_n 0, 1, 0, [])) rfl).trans rfl
theorem u_J6_bitCount_0f7a4_26 {d : Nat} {ls : zL} {st : List zV} {h : zH} : zX d tb_J6_bitCount_0f7a4 26 ls st h = zX d tb_J6_bitCount_0f7a4 27 ls (.inl 4 :: st) h := (zX_unf (o := (.iconst 4, 1, 0, [])) rfl).trans rfl
theorem u_J6_bitCount_0f7a4_27 {d : Nat} {ls : zL} {st : List zV} {h : zH} {x y : Int32} : zX d tb_J6_bitCount_0f7a4 27 ls (.inl y :: .inl x :: st) h = zX d tb_J6_bitCount_0f7a4 28 ls (.inl ((x.toUInt32 >>> (y.toUInt32 &&& Int32.toUInt32 31)).toInt32) :: st) h := (zX_unf (o := (.iushr, 1, 0, [])) rfl).trans rfl
theorem u_J6_bitCount_0f7a4_28 {d : Nat} {ls : zL} {st : List zV} {h : zH} {x y : Int32} : zX d tb_J6_bitCount_0f7a4 28 ls (.inl y :: .inl x :: st) h = zX d tb_J6_bitCount_0f7a4 29 ls (.inl (x + y) :: st) h := (zX_unf (o := (.iadd, 1, 0, [])) rfl).trans rfl
theorem u_J6_bitCount_0f7a4_29 {d : Nat} {ls : zL} {st : List zV} {h : zH} : zX d tb_J6_bitCount_0f7a4 29 ls st h = zX d tb_J6_bitCount_0f7a4 32 ls (.inl 252645135 :: st) h := (zX_unf (o := (.ldc_w 267, 3, 252645135, [])) rfl).trans rfl
theorem u_J6_bitCount_0f7a4_32 {d : Nat} {ls : zL} {st : List zV} {h : zH} {x y : Int32} : zX d tb_J6_bitCount_0f7a4 32 ls (.inl y :: .inl x :: st) h = zX d tb_J6_bitCount_0f7a4 33 ls (.inl (x &&& y) :: st) h := (zX_unf (o := (.iand, 1, 0, [])) rfl).trans rfl
theorem u_J6_bitCount_0f7a4_33 {d : Nat} {st : List zV} {h : zH} {l0 : Option zV} {x : Int32} : zX d tb_J6_bitCount_0f7a4 33 [l0] (.inl x :: st) h = zX d tb_J6_bitCount_0f7a4 34 [some (.inl x)] st h := (zX_unf (o := (.istore_n 0, 1, 0, [])) rfl).trans rfl
theorem u_J6_bitCount_0f7a4_34 {d : Nat} {st : List zV} {h : zH} {x : Int32} : zX d tb_J6_bitCount_0f7a4 34 [some (.inl x)] st h = zX d tb_J6_bitCount_0f7a4 35 [some (.inl x)] (.inl x :: st) h := (zX_unf (o := (.iload_n 0, 1, 0, [])) rfl).trans rfl
theorem u_J6_bitCount_0f7a4_35 {d : Nat} {st : List zV} {h : zH} {x : Int32} : zX d tb_J6_bitCount_0f7a4 35 [some (.inl x)] st h = zX d tb_J6_bitCount_0f7a4 36 [some (.inl x)] (.inl x :: st) h := (zX_unf (o := (.iload_n 0, 1, 0, [])) rfl).trans rfl
theorem u_J6_bitCount_0f7a4_36 {d : Nat} {ls : zL} {st : List zV} {h : zH} : zX d tb_J6_bitCount_0f7a4 36 ls st h = zX d tb_J6_bitCount_0f7a4 38 ls (.inl 8 :: st) h := (zX_unf (o := (.bipush 8, 2, 0, [])) rfl).trans rfl
theorem u_J6_bitCount_0f7a4_38 {d : Nat} {ls : zL} {st : List zV} {h : zH} {x y : Int32} : zX d tb_J6_bitCount_0f7a4 38 ls (.inl y :: .inl x :: st) h = zX d tb_J6_bitCount_0f7a4 39 ls (.inl ((x.toUInt32 >>> (y.toUInt32 &&& Int32.toUInt32 31)).toInt32) :: st) h := (zX_unf (o := (.iushr, 1, 0, [])) rfl).trans rfl
theorem u_J6_bitCount_0f7a4_39 {d : Nat} {ls : zL} {st : List zV} {h : zH} {x y : Int32} : zX d tb_J6_bitCount_0f7a4 39 ls (.inl y :: .inl x :: st) h = zX d tb_J6_bitCount_0f7a4 40 ls (.inl (x + y) :: st) h := (zX_unf (o := (.iadd, 1, 0, [])) rfl).trans rfl
theorem u_J6_bitCount_0f7a4_40 {d : Nat} {st : List zV} {h : zH} {l0 : Option zV} {x : Int32} : zX d tb_J6_bitCount_0f7a4 40 [l0] (.inl x :: st) h = zX d tb_J6_bitCount_0f7a4 41 [some (.inl x)] st h := (zX_unf (o := (.istore_n 0, 1, 0, [])) rfl).trans rfl
theorem u_J6_bitCount_0f7a4_41 {d : Nat} {st : List zV} {h : zH} {x : Int32} : zX d tb_J6_bitCount_0f7a4 41 [some (.inl x)] st h = zX d tb_J6_bitCount_0f7a4 42 [some (.inl x)] (.inl x :: st) h := (zX_unf (o := (.iload_n 0, 1, 0, [])) rfl).trans rfl
theorem u_J6_bitCount_0f7a4_42 {d : Nat} {st : List zV} {h : zH} {x : Int32} : zX d tb_J6_bitCount_0f7a4 42 [some (.inl x)] st h = zX d tb_J6_bitCount_0f7a4 43 [some (.inl x)] (.inl x :: st) h := (zX_unf (o := (.iload_n 0, 1, 0, [])) rfl).trans rfl
theorem u_J6_bitCount_0f7a4_43 {d : Nat} {ls : zL} {st : List zV} {h : zH} : zX d tb_J6_bitCount_0f7a4 43 ls st h = zX d tb_J6_bitCount_0f7a4 45 ls (.inl 16 :: st) h := (zX_unf (o := (.bipush 16, 2, 0, [])) rfl).trans rfl
theorem u_J6_bitCount_0f7a4_45 {d : Nat} {ls : zL} {st : List zV} {h : zH} {x y : Int32} : zX d tb_J6_bitCount_0f7a4 45 ls (.inl y :: .inl x :: st) h = zX d tb_J6_bitCount_0f7a4 46 ls (.inl ((x.toUInt32 >>> (y.toUInt32 &&& Int32.toUInt32 31)).toInt32) :: st) h := (zX_unf (o := (.iushr, 1, 0, [])) rfl).trans rfl
theorem u_J6_bitCount_0f7a4_46 {d : Nat} {ls : zL} {st : List zV} {h : zH} {x y : Int32} : zX d tb_J6_bitCount_0f7a4 46 ls (.inl y :: .inl x :: st) h = zX d tb_J6_bitCount_0f7a4 47 ls (.inl (x + y) :: st) h := (zX_unf (o := (.iadd, 1, 0, [])) rfl).trans rfl
theorem u_J6_bitCount_0f7a4_47 {d : Nat} {st : List zV} {h : zH} {l0 : Option zV} {x : Int32} : zX d tb_J6_bitCount_0f7a4 47 [l0] (.inl x :: st) h = zX d tb_J6_bitCount_0f7a4 48 [some (.inl x)] st h := (zX_unf (o := (.istore_n 0, 1, 0, [])) rfl).trans rfl
theorem u_J6_bitCount_0f7a4_48 {d : Nat} {st : List zV} {h : zH} {x : Int32} : zX d tb_J6_bitCount_0f7a4 48 [some (.inl x)] st h = zX d tb_J6_bitCount_0f7a4 49 [some (.inl x)] (.inl x :: st) h := (zX_unf (o := (.iload_n 0, 1, 0, [])) rfl).trans rfl
theorem u_J6_bitCount_0f7a4_49 {d : Nat} {ls : zL} {st : List zV} {h : zH} : zX d tb_J6_bitCount_0f7a4 49 ls st h = zX d tb_J6_bitCount_0f7a4 51 ls (.inl 63 :: st) h := (zX_unf (o := (.bipush 63, 2, 0, [])) rfl).trans rfl
theorem u_J6_bitCount_0f7a4_51 {d : Nat} {ls : zL} {st : List zV} {h : zH} {x y : Int32} : zX d tb_J6_bitCount_0f7a4 51 ls (.inl y :: .inl x :: st) h = zX d tb_J6_bitCount_0f7a4 52 ls (.inl (x &&& y) :: st) h := (zX_unf (o := (.iand, 1, 0, [])) rfl).trans rfl
theorem u_J6_bitCount_0f7a4_52 {d : Nat} {ls : zL} {h : zH} {v : Int32} : zX d tb_J6_bitCount_0f7a4 52 ls [.inl v] h = some (some (.inl v), h) := (zX_unf (o := (.ireturn, 1, 0, [])) rfl).trans rfl
theorem e_J7_fill_53178 {d : Nat} {h : zH} {v0 : (Option Nat)} {v1 : Int32} : zcall (zP zM) (d + 1) 144 [.inr (.inr v0), .inl v1] h = zX d tb_J7_fill_53178 0 [some (.inr (.inr v0)), some (.inl v1), none, none] [] h := (zcall_succ _ _ _ _ _).trans (if_pos (Nat.le_of_ble_eq_true rfl))
theorem u_J7_fill_53178_0 {d : Nat} {ls : zL} {st : List zV} {h : zH} : zX d tb_J7_fill_53178 0 ls st h = zX d tb_J7_fill_53178 1 ls (.inl 0 :: st) h := (zX_unf (o := (.iconst 0, 1, 0, [])) rfl).trans rfl
theorem u_J7_fill_53178_1 {d : Nat} {st : List zV} {h : zH} {l0 l1 l2 l3 : Option zV} {x : Int32} : zX d tb_J7_fill_53178 1 [l0, l1, l2, l3] (.inl x :: st) h = zX d tb_J7_fill_53178 2 [l0, zcl l1, some (.inl x), l3] st h := (zX_unf (o := (.istore_n 2, 1, 0, [])) rfl).trans rfl
theorem u_J7_fill_53178_2 {d : Nat} {st : List zV} {h : zH} {l1 l2 l3 : Option zV} {x : (Option Nat)} : zX d tb_J7_fill_53178 2 [some (.inr (.inr x)), l1, l2, l3] st h = zX d tb_J7_fill_53178 3 [some (.inr (.inr x)), l1, l2, l3] (.inr (.inr x) :: st) h := (zX_unf (o := (.aload_n 0, 1, 0, [])) rfl).trans rfl
theorem u_J7_fill_53178_3 {d : Nat} {ls : zL} {st : List zV} {h : zH} {a : Nat} : zX d tb_J7_fill_53178 3 ls (.inr (.inr (some a)) :: st) h = if 12 ≤ (zk h a).1 ∧ (zk h a).1 ≤ 16 then zX d tb_J7_fill_53178 4 ls (.inl (nI (zk h a).2) :: st) h else none := ux_alen rfl
theorem u_J7_fill_53178_4 {d : Nat} {st : List zV} {h : zH} {l0 l1 l2 l3 : Option zV} {x : Int32} : zX d tb_J7_fill_53178 4 [l0, l1, l2, l3] (.inl x :: st) h = zX d tb_J7_fill_53178 5 [l0, l1, zcl l2, some (.inl x)] st h := (zX_unf (o := (.istore_n 3, 1, 0, [])) rfl).trans rfl
theorem u_J7_fill_53178_5 {d : Nat} {st : List zV} {h : zH} {l0 l1 l3 : Option zV} {x : Int32} : zX d tb_J7_fill_53178 5 [l0, l1, some (.inl x), l3] st h = zX d tb_J7_fill_53178 6 [l0, l1, some (.inl x), l3] (.inl x :: st) h := (zX_unf (o := (.iload_n 2, 1, 0, [])) rfl).trans rfl
theorem u_J7_fill_53178_6 {d : Nat} {st : List zV} {h : zH} {l0 l1 l2 : Option zV} {x : Int32} : zX d tb_J7_fill_53178 6 [l0, l1, l2, some (.inl x)] st h = zX d tb_J7_fill_53178 7 [l0, l1, l2, some (.inl x)] (.inl x :: st) h := (zX_unf (o := (.iload_n 3, 1, 0, [])) rfl).trans rfl
theorem u_J7_fill_53178_7 {d : Nat} {ls : zL} {st : List zV} {h : zH} {x y : Int32} : zX d tb_J7_fill_53178 7 ls (.inl y :: .inl x :: st) h = if x < y then zX d tb_J7_fill_53178 10 ls st h else zX d tb_J7_fill_53178 20 ls st h := ux_ic_ge rfl (by decide)
theorem u_J7_fill_53178_10 {d : Nat} {st : List zV} {h : zH} {l1 l2 l3 : Option zV} {x : (Option Nat)} : zX d tb_J7_fill_53178 10 [some (.inr (.inr x)), l1, l2, l3] st h = zX d tb_J7_fill_53178 11 [some (.inr (.inr x)), l1, l2, l3] (.inr (.inr x) :: st) h := (zX_unf (o := (.aload_n 0, 1, 0, [])) rfl).trans rfl
theorem u_J7_fill_53178_11 {d : Nat} {st : List zV} {h : zH} {l0 l1 l3 : Option zV} {x : Int32} : zX d tb_J7_fill_53178 11 [l0, l1, some (.inl x), l3] st h = zX d tb_J7_fill_53178 12 [l0, l1, some (.inl x), l3] (.inl x :: st) h := (zX_unf (o := (.iload_n 2, 1, 0, [])) rfl).trans rfl
theorem u_J7_fill_53178_12 {d : Nat} {st : List zV} {h : zH} {l0 l2 l3 : Option zV} {x : Int32} : zX d tb_J7_fill_53178 12 [l0, some (.inl x), l2, l3] st h = zX d tb_J7_fill_53178 13 [l0, some (.inl x), l2, l3] (.inl x :: st) h := (zX_unf (o := (.iload_n 1, 1, 0, [])) rfl).trans rfl
theorem u_J7_fill_53178_13 {d : Nat} {ls : zL} {st : List zV} {h : zH} {a : Nat} {i v : Int32} : zX d tb_J7_fill_53178 13 ls (.inl v :: .inl i :: .inr (.inr (some a)) :: st) h = if (zk h a).1 = 12 then (zix i (zk h a).2).bind fun j => zX d tb_J7_fill_53178 14 ls st (zwI h a j v) else none := ux_ast rfl
theorem u_J7_fill_53178_14 {d : Nat} {st : List zV} {h : zH} {l0 l1 l3 : Option zV} {x : Int32} : zX d tb_J7_fill_53178 14 [l0, l1, some (.inl x), l3] st h = zX d tb_J7_fill_53178 17 [l0, zcl l1, some (.inl (x + 1)), l3] st h := (zX_unf (o := (.iinc 2 1, 3, 0, [])) rfl).trans rfl
theorem u_J7_fill_53178_17 {d : Nat} {ls : zL} {st : List zV} {h : zH} : zX d tb_J7_fill_53178 17 ls st h = zX d tb_J7_fill_53178 5 ls st h := ux_goto rfl (by decide)
theorem u_J7_fill_53178_20 {d : Nat} {ls : zL} {h : zH} : zX d tb_J7_fill_53178 20 ls [] h = some (none, h) := (zX_unf (o := (.return_, 1, 0, [])) rfl).trans rfl
