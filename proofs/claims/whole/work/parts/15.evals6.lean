theorem zlk_left {a b : List (Nat × zO)} {pc : Nat} {o : zO} (h : zlk a pc = some o) : zlk (a ++ b) pc = some o := by
  induction a with
  | nil => simp [zlk] at h
  | cons q a ih =>
    rw [List.cons_append]
    unfold zlk at h ⊢
    split
    · rename_i hq
      rw [if_pos hq] at h
      exact h
    · rename_i hq
      rw [if_neg hq] at h
      exact ih h
theorem zlk_right {a b : List (Nat × zO)} {pc n : Nat} {o : zO} (ha : a.all (fun q => decide (q.1 < n)) = true) (hn : n ≤ pc) (h : zlk b pc = some o) : zlk (a ++ b) pc = some o := by
  induction a with
  | nil => exact h
  | cons q a ih =>
    rw [List.all_cons, Bool.and_eq_true] at ha
    have h1 : q.1 < n := of_decide_eq_true ha.1
    rw [List.cons_append]
    unfold zlk
    rw [if_neg (by omega)]
    exact ih ha.2
theorem kj_L_law_0 {pc : Nat} {o : zO} (h1 : 0 ≤ pc) (h : zlk tb_L_law_0 pc = some o) : zlk tb_L_law pc = some o := by
  unfold tb_L_law
  apply zlk_left
  apply zlk_left
  apply zlk_left
  apply zlk_left
  apply zlk_left
  apply zlk_left
  apply zlk_left
  apply zlk_left
  apply zlk_left
  apply zlk_left
  apply zlk_left
  apply zlk_left
  apply zlk_left
  apply zlk_left
  apply zlk_left
  apply zlk_left
  apply zlk_left
  apply zlk_left
  exact h
theorem kj_L_law_1 {pc : Nat} {o : zO} (h1 : 162 ≤ pc) (h : zlk tb_L_law_1 pc = some o) : zlk tb_L_law pc = some o := by
  unfold tb_L_law
  apply zlk_left
  apply zlk_left
  apply zlk_left
  apply zlk_left
  apply zlk_left
  apply zlk_left
  apply zlk_left
  apply zlk_left
  apply zlk_left
  apply zlk_left
  apply zlk_left
  apply zlk_left
  apply zlk_left
  apply zlk_left
  apply zlk_left
  apply zlk_left
  apply zlk_left
  exact zlk_right (n := 162) (by decide +kernel) h1 h
theorem kj_L_law_2 {pc : Nat} {o : zO} (h1 : 208 ≤ pc) (h : zlk tb_L_law_2 pc = some o) : zlk tb_L_law pc = some o := by
  unfold tb_L_law
  apply zlk_left
  apply zlk_left
  apply zlk_left
  apply zlk_left
  apply zlk_left
  apply zlk_left
  apply zlk_left
  apply zlk_left
  apply zlk_left
  apply zlk_left
  apply zlk_left
  apply zlk_left
  apply zlk_left
  apply zlk_left
  apply zlk_left
  apply zlk_left
  exact zlk_right (n := 208) (by decide +kernel) h1 h
theorem kj_L_law_3 {pc : Nat} {o : zO} (h1 : 260 ≤ pc) (h : zlk tb_L_law_3 pc = some o) : zlk tb_L_law pc = some o := by
  unfold tb_L_law
  apply zlk_left
  apply zlk_left
  apply zlk_left
  apply zlk_left
  apply zlk_left
  apply zlk_left
  apply zlk_left
  apply zlk_left
  apply zlk_left
  apply zlk_left
  apply zlk_left
  apply zlk_left
  apply zlk_left
  apply zlk_left
  apply zlk_left
  exact zlk_right (n := 260) (by decide +kernel) h1 h
theorem kj_L_law_4 {pc : Nat} {o : zO} (h1 : 316 ≤ pc) (h : zlk tb_L_law_4 pc = some o) : zlk tb_L_law pc = some o := by
  unfold tb_L_law
  apply zlk_left
  apply zlk_left
  apply zlk_left
  apply zlk_left
  apply zlk_left
  apply zlk_left
  apply zlk_left
  apply zlk_left
  apply zlk_left
  apply zlk_left
  apply zlk_left
  apply zlk_left
  apply zlk_left
  apply zlk_left
  exact zlk_right (n := 316) (by decide +kernel) h1 h
theorem kj_L_law_5 {pc : Nat} {o : zO} (h1 : 364 ≤ pc) (h : zlk tb_L_law_5 pc = some o) : zlk tb_L_law pc = some o := by
  unfold tb_L_law
  apply zlk_left
  apply zlk_left
  apply zlk_left
  apply zlk_left
  apply zlk_left
  apply zlk_left
  apply zlk_left
  apply zlk_left
  apply zlk_left
  apply zlk_left
  apply zlk_left
  apply zlk_left
  apply zlk_left
  exact zlk_right (n := 364) (by decide +kernel) h1 h
theorem kj_L_law_6 {pc : Nat} {o : zO} (h1 : 408 ≤ pc) (h : zlk tb_L_law_6 pc = some o) : zlk tb_L_law pc = some o := by
  unfold tb_L_law
  apply zlk_left
  apply zlk_left
  apply zlk_left
  apply zlk_left
  apply zlk_left
  apply zlk_left
  apply zlk_left
  apply zlk_left
  apply zlk_left
  apply zlk_left
  apply zlk_left
  apply zlk_left
  exact zlk_right (n := 408) (by decide +kernel) h1 h
theorem kj_L_law_7 {pc : Nat} {o : zO} (h1 : 454 ≤ pc) (h : zlk tb_L_law_7 pc = some o) : zlk tb_L_law pc = some o := by
  unfold tb_L_law
  apply zlk_left
  apply zlk_left
  apply zlk_left
  apply zlk_left
  apply zlk_left
  apply zlk_left
  apply zlk_left
  apply zlk_left
  apply zlk_left
  apply zlk_left
  apply zlk_left
  exact zlk_right (n := 454) (by decide +kernel) h1 h
theorem kj_L_law_8 {pc : Nat} {o : zO} (h1 : 502 ≤ pc) (h : zlk tb_L_law_8 pc = some o) : zlk tb_L_law pc = some o := by
  unfold tb_L_law
  apply zlk_left
  apply zlk_left
  apply zlk_left
  apply zlk_left
  apply zlk_left
  apply zlk_left
  apply zlk_left
  apply zlk_left
  apply zlk_left
  apply zlk_left
  exact zlk_right (n := 502) (by decide +kernel) h1 h
theorem kj_L_law_9 {pc : Nat} {o : zO} (h1 : 552 ≤ pc) (h : zlk tb_L_law_9 pc = some o) : zlk tb_L_law pc = some o := by
  unfold tb_L_law
  apply zlk_left
  apply zlk_left
  apply zlk_left
  apply zlk_left
  apply zlk_left
  apply zlk_left
  apply zlk_left
  apply zlk_left
  apply zlk_left
  exact zlk_right (n := 552) (by decide +kernel) h1 h
theorem kj_L_law_10 {pc : Nat} {o : zO} (h1 : 598 ≤ pc) (h : zlk tb_L_law_10 pc = some o) : zlk tb_L_law pc = some o := by
  unfold tb_L_law
  apply zlk_left
  apply zlk_left
  apply zlk_left
  apply zlk_left
  apply zlk_left
  apply zlk_left
  apply zlk_left
  apply zlk_left
  exact zlk_right (n := 598) (by decide +kernel) h1 h
theorem kj_L_law_11 {pc : Nat} {o : zO} (h1 : 644 ≤ pc) (h : zlk tb_L_law_11 pc = some o) : zlk tb_L_law pc = some o := by
  unfold tb_L_law
  apply zlk_left
  apply zlk_left
  apply zlk_left
  apply zlk_left
  apply zlk_left
  apply zlk_left
  apply zlk_left
  exact zlk_right (n := 644) (by decide +kernel) h1 h
theorem kj_L_law_12 {pc : Nat} {o : zO} (h1 : 696 ≤ pc) (h : zlk tb_L_law_12 pc = some o) : zlk tb_L_law pc = some o := by
  unfold tb_L_law
  apply zlk_left
  apply zlk_left
  apply zlk_left
  apply zlk_left
  apply zlk_left
  apply zlk_left
  exact zlk_right (n := 696) (by decide +kernel) h1 h
theorem kj_L_law_13 {pc : Nat} {o : zO} (h1 : 744 ≤ pc) (h : zlk tb_L_law_13 pc = some o) : zlk tb_L_law pc = some o := by
  unfold tb_L_law
  apply zlk_left
  apply zlk_left
  apply zlk_left
  apply zlk_left
  apply zlk_left
  exact zlk_right (n := 744) (by decide +kernel) h1 h
theorem kj_L_law_14 {pc : Nat} {o : zO} (h1 : 794 ≤ pc) (h : zlk tb_L_law_14 pc = some o) : zlk tb_L_law pc = some o := by
  unfold tb_L_law
  apply zlk_left
  apply zlk_left
  apply zlk_left
  apply zlk_left
  exact zlk_right (n := 794) (by decide +kernel) h1 h
theorem kj_L_law_15 {pc : Nat} {o : zO} (h1 : 840 ≤ pc) (h : zlk tb_L_law_15 pc = some o) : zlk tb_L_law pc = some o := by
  unfold tb_L_law
  apply zlk_left
  apply zlk_left
  apply zlk_left
  exact zlk_right (n := 840) (by decide +kernel) h1 h
theorem kj_L_law_16 {pc : Nat} {o : zO} (h1 : 882 ≤ pc) (h : zlk tb_L_law_16 pc = some o) : zlk tb_L_law pc = some o := by
  unfold tb_L_law
  apply zlk_left
  apply zlk_left
  exact zlk_right (n := 882) (by decide +kernel) h1 h
theorem kj_L_law_17 {pc : Nat} {o : zO} (h1 : 934 ≤ pc) (h : zlk tb_L_law_17 pc = some o) : zlk tb_L_law pc = some o := by
  unfold tb_L_law
  apply zlk_left
  exact zlk_right (n := 934) (by decide +kernel) h1 h
theorem kj_L_law_18 {pc : Nat} {o : zO} (h1 : 986 ≤ pc) (h : zlk tb_L_law_18 pc = some o) : zlk tb_L_law pc = some o := by
  unfold tb_L_law
  exact zlk_right (n := 986) (by decide +kernel) h1 h
theorem k_L_law_0 : zlk tb_L_law 0 = some (.new 7, 3, 0, [(10, 12, 0, "", "")]) := kj_L_law_0 (by decide) rfl
theorem u_L_law_0 {d : Nat} {ls : zL} {st : List zV} {h : zH} : zX d tb_L_law 0 ls st h = zX d tb_L_law 3 ls (.inr (.inr (some (zn h))) :: st) (zN h 10 0 12) := (zX_unf (o := (.new 7, 3, 0, [(10, 12, 0, "", "")])) k_L_law_0).trans rfl
theorem k_L_law_3 : zlk tb_L_law 3 = some (.dup, 1, 0, []) := kj_L_law_0 (by decide) rfl
theorem u_L_law_3 {d : Nat} {ls : zL} {st : List zV} {h : zH} {x : (Option Nat)} : zX d tb_L_law 3 ls (.inr (.inr x) :: st) h = zX d tb_L_law 4 ls (.inr (.inr x) :: .inr (.inr x) :: st) h := (zX_unf (o := (.dup, 1, 0, [])) k_L_law_3).trans rfl
theorem u_L_law_3i {d : Nat} {ls : zL} {st : List zV} {h : zH} {x : Int32} : zX d tb_L_law 3 ls (.inl x :: st) h = zX d tb_L_law 4 ls (.inl x :: .inl x :: st) h := (zX_unf (o := (.dup, 1, 0, [])) k_L_law_3).trans rfl
theorem k_L_law_4 : zlk tb_L_law 4 = some (.invokespecial 9, 3, 0, [(0, 52, 4, "", "")]) := kj_L_law_0 (by decide) rfl
theorem u_L_law_4 {d : Nat} {ls : zL} {h : zH} {a : Nat} {r0 : zV} : zX d tb_L_law 4 ls [.inr (.inr (some a)), r0] h = if (zk h a).1 < 12 then (zcall (zP zM) d 52 [.inr (.inr (some a))] h).bind fun q => zX d tb_L_law 7 ls (q.1.toList ++ [r0]) q.2 else none := ux_callI (as := []) (r := [r0]) k_L_law_4 (n := 0) rfl rfl rfl rfl (Nat.le_of_ble_eq_true rfl)
theorem k_L_law_7 : zlk tb_L_law 7 = some (.astore_n 1, 1, 0, []) := kj_L_law_0 (by decide) rfl
theorem u_L_law_7 {d : Nat} {st : List zV} {h : zH} {l0 l1 l2 l3 : Option zV} {x : (Option Nat)} : zX d tb_L_law 7 [l0, l1, l2, l3] (.inr (.inr x) :: st) h = zX d tb_L_law 8 [zcl l0, some (.inr (.inr x)), l2, l3] st h := (zX_unf (o := (.astore_n 1, 1, 0, [])) k_L_law_7).trans rfl
theorem k_L_law_8 : zlk tb_L_law 8 = some (.new 10, 3, 0, [(11, 43, 0, "", "")]) := kj_L_law_0 (by decide) rfl
theorem u_L_law_8 {d : Nat} {ls : zL} {st : List zV} {h : zH} : zX d tb_L_law 8 ls st h = zX d tb_L_law 11 ls (.inr (.inr (some (zn h))) :: st) (zN h 11 0 43) := (zX_unf (o := (.new 10, 3, 0, [(11, 43, 0, "", "")])) k_L_law_8).trans rfl
theorem k_L_law_11 : zlk tb_L_law 11 = some (.dup, 1, 0, []) := kj_L_law_0 (by decide) rfl
theorem u_L_law_11 {d : Nat} {ls : zL} {st : List zV} {h : zH} {x : (Option Nat)} : zX d tb_L_law 11 ls (.inr (.inr x) :: st) h = zX d tb_L_law 12 ls (.inr (.inr x) :: .inr (.inr x) :: st) h := (zX_unf (o := (.dup, 1, 0, [])) k_L_law_11).trans rfl
theorem u_L_law_11i {d : Nat} {ls : zL} {st : List zV} {h : zH} {x : Int32} : zX d tb_L_law 11 ls (.inl x :: st) h = zX d tb_L_law 12 ls (.inl x :: .inl x :: st) h := (zX_unf (o := (.dup, 1, 0, [])) k_L_law_11).trans rfl
theorem k_L_law_12 : zlk tb_L_law 12 = some (.invokespecial 12, 3, 0, [(0, 86, 4, "", "")]) := kj_L_law_0 (by decide) rfl
theorem u_L_law_12 {d : Nat} {ls : zL} {h : zH} {a : Nat} {r0 : zV} : zX d tb_L_law 12 ls [.inr (.inr (some a)), r0] h = if (zk h a).1 < 12 then (zcall (zP zM) d 86 [.inr (.inr (some a))] h).bind fun q => zX d tb_L_law 15 ls (q.1.toList ++ [r0]) q.2 else none := ux_callI (as := []) (r := [r0]) k_L_law_12 (n := 0) rfl rfl rfl rfl (Nat.le_of_ble_eq_true rfl)
theorem k_L_law_15 : zlk tb_L_law 15 = some (.astore_n 2, 1, 0, []) := kj_L_law_0 (by decide) rfl
theorem u_L_law_15 {d : Nat} {st : List zV} {h : zH} {l0 l1 l2 l3 : Option zV} {x : (Option Nat)} : zX d tb_L_law 15 [l0, l1, l2, l3] (.inr (.inr x) :: st) h = zX d tb_L_law 16 [l0, zcl l1, some (.inr (.inr x)), l3] st h := (zX_unf (o := (.astore_n 2, 1, 0, [])) k_L_law_15).trans rfl
theorem k_L_law_16 : zlk tb_L_law 16 = some (.iconst 0, 1, 0, []) := kj_L_law_0 (by decide) rfl
theorem u_L_law_16 {d : Nat} {ls : zL} {st : List zV} {h : zH} : zX d tb_L_law 16 ls st h = zX d tb_L_law 17 ls (.inl 0 :: st) h := (zX_unf (o := (.iconst 0, 1, 0, [])) k_L_law_16).trans rfl
theorem k_L_law_17 : zlk tb_L_law 17 = some (.istore_n 3, 1, 0, []) := kj_L_law_0 (by decide) rfl
theorem u_L_law_17 {d : Nat} {st : List zV} {h : zH} {l0 l1 l2 l3 : Option zV} {x : Int32} : zX d tb_L_law 17 [l0, l1, l2, l3] (.inl x :: st) h = zX d tb_L_law 18 [l0, l1, zcl l2, some (.inl x)] st h := (zX_unf (o := (.istore_n 3, 1, 0, [])) k_L_law_17).trans rfl
theorem k_L_law_18 : zlk tb_L_law 18 = some (.iload_n 3, 1, 0, []) := kj_L_law_0 (by decide) rfl
theorem u_L_law_18 {d : Nat} {st : List zV} {h : zH} {l0 l1 l2 : Option zV} {x : Int32} : zX d tb_L_law 18 [l0, l1, l2, some (.inl x)] st h = zX d tb_L_law 19 [l0, l1, l2, some (.inl x)] (.inl x :: st) h := (zX_unf (o := (.iload_n 3, 1, 0, [])) k_L_law_18).trans rfl
theorem k_L_law_19 : zlk tb_L_law 19 = some (.aload_n 0, 1, 0, []) := kj_L_law_0 (by decide) rfl
theorem u_L_law_19 {d : Nat} {st : List zV} {h : zH} {l1 l2 l3 : Option zV} {x : (Option Nat)} : zX d tb_L_law 19 [some (.inr (.inr x)), l1, l2, l3] st h = zX d tb_L_law 20 [some (.inr (.inr x)), l1, l2, l3] (.inr (.inr x) :: st) h := (zX_unf (o := (.aload_n 0, 1, 0, [])) k_L_law_19).trans rfl
theorem k_L_law_20 : zlk tb_L_law 20 = some (.arraylength, 1, 0, []) := kj_L_law_0 (by decide) rfl
theorem u_L_law_20 {d : Nat} {ls : zL} {st : List zV} {h : zH} {a : Nat} : zX d tb_L_law 20 ls (.inr (.inr (some a)) :: st) h = if 12 ≤ (zk h a).1 ∧ (zk h a).1 ≤ 16 then zX d tb_L_law 21 ls (.inl (nI (zk h a).2) :: st) h else none := ux_alen k_L_law_20
theorem k_L_law_21 : zlk tb_L_law 21 = some (.bipush 6, 2, 0, []) := kj_L_law_0 (by decide) rfl
theorem u_L_law_21 {d : Nat} {ls : zL} {st : List zV} {h : zH} : zX d tb_L_law 21 ls st h = zX d tb_L_law 23 ls (.inl 6 :: st) h := (zX_unf (o := (.bipush 6, 2, 0, [])) k_L_law_21).trans rfl
theorem k_L_law_23 : zlk tb_L_law 23 = some (.isub, 1, 0, []) := kj_L_law_0 (by decide) rfl
theorem u_L_law_23 {d : Nat} {ls : zL} {st : List zV} {h : zH} {x y : Int32} : zX d tb_L_law 23 ls (.inl y :: .inl x :: st) h = zX d tb_L_law 24 ls (.inl (x - y) :: st) h := (zX_unf (o := (.isub, 1, 0, [])) k_L_law_23).trans rfl
theorem k_L_law_24 : zlk tb_L_law 24 = some (.if_icmp .gt 1012, 3, 0, []) := kj_L_law_0 (by decide) rfl
theorem u_L_law_24 {d : Nat} {ls : zL} {st : List zV} {h : zH} {x y : Int32} : zX d tb_L_law 24 ls (.inl y :: .inl x :: st) h = if y < x then zX d tb_L_law 1036 ls st h else zX d tb_L_law 27 ls st h := ux_ic_gt k_L_law_24 (by decide)
theorem k_L_law_27 : zlk tb_L_law 27 = some (.aload_n 0, 1, 0, []) := kj_L_law_0 (by decide) rfl
theorem u_L_law_27 {d : Nat} {st : List zV} {h : zH} {l1 l2 l3 : Option zV} {x : (Option Nat)} : zX d tb_L_law 27 [some (.inr (.inr x)), l1, l2, l3] st h = zX d tb_L_law 28 [some (.inr (.inr x)), l1, l2, l3] (.inr (.inr x) :: st) h := (zX_unf (o := (.aload_n 0, 1, 0, [])) k_L_law_27).trans rfl
theorem k_L_law_28 : zlk tb_L_law 28 = some (.iload_n 3, 1, 0, []) := kj_L_law_0 (by decide) rfl
theorem u_L_law_28 {d : Nat} {st : List zV} {h : zH} {l0 l1 l2 : Option zV} {x : Int32} : zX d tb_L_law 28 [l0, l1, l2, some (.inl x)] st h = zX d tb_L_law 29 [l0, l1, l2, some (.inl x)] (.inl x :: st) h := (zX_unf (o := (.iload_n 3, 1, 0, [])) k_L_law_28).trans rfl
theorem k_L_law_29 : zlk tb_L_law 29 = some (.iaload, 1, 0, []) := kj_L_law_0 (by decide) rfl
theorem u_L_law_29 {d : Nat} {ls : zL} {st : List zV} {h : zH} {a : Nat} {i : Int32} : zX d tb_L_law 29 ls (.inl i :: .inr (.inr (some a)) :: st) h = if (zk h a).1 = 12 ∨ (zk h a).1 = 16 then (zix i (zk h a).2).bind fun j => zX d tb_L_law 30 ls (.inl (zi h a j) :: st) h else none := ux_ald k_L_law_29
theorem k_L_law_30 : zlk tb_L_law 30 = some (.bipush 31, 2, 0, []) := kj_L_law_0 (by decide) rfl
theorem u_L_law_30 {d : Nat} {ls : zL} {st : List zV} {h : zH} : zX d tb_L_law 30 ls st h = zX d tb_L_law 32 ls (.inl 31 :: st) h := (zX_unf (o := (.bipush 31, 2, 0, [])) k_L_law_30).trans rfl
theorem k_L_law_32 : zlk tb_L_law 32 = some (.iand, 1, 0, []) := kj_L_law_0 (by decide) rfl
theorem u_L_law_32 {d : Nat} {ls : zL} {st : List zV} {h : zH} {x y : Int32} : zX d tb_L_law 32 ls (.inl y :: .inl x :: st) h = zX d tb_L_law 33 ls (.inl (x &&& y) :: st) h := (zX_unf (o := (.iand, 1, 0, [])) k_L_law_32).trans rfl
theorem k_L_law_33 : zlk tb_L_law 33 = some (.tableswitch 997 0 23 #[111, 164, 197, 246, 295, 358, 411, 444, 497, 520, 564, 607, 630, 653, 696, 719, 762, 806, 869, 892, 915, 948, 961, 974], 111, 0, []) := kj_L_law_0 (by decide) rfl
theorem u_L_law_33 {d : Nat} {ls : zL} {st : List zV} {h : zH} {x : Int32} : zX d tb_L_law 33 ls (.inl x :: st) h = if x = 0 then zX d tb_L_law 144 ls st h else if x = 1 then zX d tb_L_law 197 ls st h else if x = 2 then zX d tb_L_law 230 ls st h else if x = 3 then zX d tb_L_law 279 ls st h else if x = 4 then zX d tb_L_law 328 ls st h else if x = 5 then zX d tb_L_law 391 ls st h else if x = 6 then zX d tb_L_law 444 ls st h else if x = 7 then zX d tb_L_law 477 ls st h else if x = 8 then zX d tb_L_law 530 ls st h else if x = 9 then zX d tb_L_law 553 ls st h else if x = 10 then zX d tb_L_law 597 ls st h else if x = 11 then zX d tb_L_law 640 ls st h else if x = 12 then zX d tb_L_law 663 ls st h else if x = 13 then zX d tb_L_law 686 ls st h else if x = 14 then zX d tb_L_law 729 ls st h else if x = 15 then zX d tb_L_law 752 ls st h else if x = 16 then zX d tb_L_law 795 ls st h else if x = 17 then zX d tb_L_law 839 ls st h else if x = 18 then zX d tb_L_law 902 ls st h else if x = 19 then zX d tb_L_law 925 ls st h else if x = 20 then zX d tb_L_law 948 ls st h else if x = 21 then zX d tb_L_law 981 ls st h else if x = 22 then zX d tb_L_law 994 ls st h else if x = 23 then zX d tb_L_law 1007 ls st h else zX d tb_L_law 1030 ls st h := by
  by_cases q0 : x = 0
  · subst q0
    rw [zX_unf (o := (.tableswitch 997 0 23 #[111, 164, 197, 246, 295, 358, 411, 444, 497, 520, 564, 607, 630, 653, 696, 719, 762, 806, 869, 892, 915, 948, 961, 974], 111, 0, [])) k_L_law_33]
    rfl
  by_cases q1 : x = 1
  · subst q1
    rw [zX_unf (o := (.tableswitch 997 0 23 #[111, 164, 197, 246, 295, 358, 411, 444, 497, 520, 564, 607, 630, 653, 696, 719, 762, 806, 869, 892, 915, 948, 961, 974], 111, 0, [])) k_L_law_33]
    rfl
  by_cases q2 : x = 2
  · subst q2
    rw [zX_unf (o := (.tableswitch 997 0 23 #[111, 164, 197, 246, 295, 358, 411, 444, 497, 520, 564, 607, 630, 653, 696, 719, 762, 806, 869, 892, 915, 948, 961, 974], 111, 0, [])) k_L_law_33]
    rfl
  by_cases q3 : x = 3
  · subst q3
    rw [zX_unf (o := (.tableswitch 997 0 23 #[111, 164, 197, 246, 295, 358, 411, 444, 497, 520, 564, 607, 630, 653, 696, 719, 762, 806, 869, 892, 915, 948, 961, 974], 111, 0, [])) k_L_law_33]
    rfl
  by_cases q4 : x = 4
  · subst q4
    rw [zX_unf (o := (.tableswitch 997 0 23 #[111, 164, 197, 246, 295, 358, 411, 444, 497, 520, 564, 607, 630, 653, 696, 719, 762, 806, 869, 892, 915, 948, 961, 974], 111, 0, [])) k_L_law_33]
    rfl
  by_cases q5 : x = 5
  · subst q5
    rw [zX_unf (o := (.tableswitch 997 0 23 #[111, 164, 197, 246, 295, 358, 411, 444, 497, 520, 564, 607, 630, 653, 696, 719, 762, 806, 869, 892, 915, 948, 961, 974], 111, 0, [])) k_L_law_33]
    rfl
  by_cases q6 : x = 6
  · subst q6
    rw [zX_unf (o := (.tableswitch 997 0 23 #[111, 164, 197, 246, 295, 358, 411, 444, 497, 520, 564, 607, 630, 653, 696, 719, 762, 806, 869, 892, 915, 948, 961, 974], 111, 0, [])) k_L_law_33]
    rfl
  by_cases q7 : x = 7
  · subst q7
    rw [zX_unf (o := (.tableswitch 997 0 23 #[111, 164, 197, 246, 295, 358, 411, 444, 497, 520, 564, 607, 630, 653, 696, 719, 762, 806, 869, 892, 915, 948, 961, 974], 111, 0, [])) k_L_law_33]
    rfl
  by_cases q8 : x = 8
  · subst q8
    rw [zX_unf (o := (.tableswitch 997 0 23 #[111, 164, 197, 246, 295, 358, 411, 444, 497, 520, 564, 607, 630, 653, 696, 719, 762, 806, 869, 892, 915, 948, 961, 974], 111, 0, [])) k_L_law_33]
    rfl
  by_cases q9 : x = 9
  · subst q9
    rw [zX_unf (o := (.tableswitch 997 0 23 #[111, 164, 197, 246, 295, 358, 411, 444, 497, 520, 564, 607, 630, 653, 696, 719, 762, 806, 869, 892, 915, 948, 961, 974], 111, 0, [])) k_L_law_33]
    rfl
  by_cases q10 : x = 10
  · subst q10
    rw [zX_unf (o := (.tableswitch 997 0 23 #[111, 164, 197, 246, 295, 358, 411, 444, 497, 520, 564, 607, 630, 653, 696, 719, 762, 806, 869, 892, 915, 948, 961, 974], 111, 0, [])) k_L_law_33]
    rfl
  by_cases q11 : x = 11
  · subst q11
    rw [zX_unf (o := (.tableswitch 997 0 23 #[111, 164, 197, 246, 295, 358, 411, 444, 497, 520, 564, 607, 630, 653, 696, 719, 762, 806, 869, 892, 915, 948, 961, 974], 111, 0, [])) k_L_law_33]
    rfl
  by_cases q12 : x = 12
  · subst q12
    rw [zX_unf (o := (.tableswitch 997 0 23 #[111, 164, 197, 246, 295, 358, 411, 444, 497, 520, 564, 607, 630, 653, 696, 719, 762, 806, 869, 892, 915, 948, 961, 974], 111, 0, [])) k_L_law_33]
    rfl
  by_cases q13 : x = 13
  · subst q13
    rw [zX_unf (o := (.tableswitch 997 0 23 #[111, 164, 197, 246, 295, 358, 411, 444, 497, 520, 564, 607, 630, 653, 696, 719, 762, 806, 869, 892, 915, 948, 961, 974], 111, 0, [])) k_L_law_33]
    rfl
  by_cases q14 : x = 14
  · subst q14
    rw [zX_unf (o := (.tableswitch 997 0 23 #[111, 164, 197, 246, 295, 358, 411, 444, 497, 520, 564, 607, 630, 653, 696, 719, 762, 806, 869, 892, 915, 948, 961, 974], 111, 0, [])) k_L_law_33]
    rfl
  by_cases q15 : x = 15
  · subst q15
    rw [zX_unf (o := (.tableswitch 997 0 23 #[111, 164, 197, 246, 295, 358, 411, 444, 497, 520, 564, 607, 630, 653, 696, 719, 762, 806, 869, 892, 915, 948, 961, 974], 111, 0, [])) k_L_law_33]
    rfl
  by_cases q16 : x = 16
  · subst q16
    rw [zX_unf (o := (.tableswitch 997 0 23 #[111, 164, 197, 246, 295, 358, 411, 444, 497, 520, 564, 607, 630, 653, 696, 719, 762, 806, 869, 892, 915, 948, 961, 974], 111, 0, [])) k_L_law_33]
    rfl
  by_cases q17 : x = 17
  · subst q17
    rw [zX_unf (o := (.tableswitch 997 0 23 #[111, 164, 197, 246, 295, 358, 411, 444, 497, 520, 564, 607, 630, 653, 696, 719, 762, 806, 869, 892, 915, 948, 961, 974], 111, 0, [])) k_L_law_33]
    rfl
  by_cases q18 : x = 18
  · subst q18
    rw [zX_unf (o := (.tableswitch 997 0 23 #[111, 164, 197, 246, 295, 358, 411, 444, 497, 520, 564, 607, 630, 653, 696, 719, 762, 806, 869, 892, 915, 948, 961, 974], 111, 0, [])) k_L_law_33]
    rfl
  by_cases q19 : x = 19
  · subst q19
    rw [zX_unf (o := (.tableswitch 997 0 23 #[111, 164, 197, 246, 295, 358, 411, 444, 497, 520, 564, 607, 630, 653, 696, 719, 762, 806, 869, 892, 915, 948, 961, 974], 111, 0, [])) k_L_law_33]
    rfl
  by_cases q20 : x = 20
  · subst q20
    rw [zX_unf (o := (.tableswitch 997 0 23 #[111, 164, 197, 246, 295, 358, 411, 444, 497, 520, 564, 607, 630, 653, 696, 719, 762, 806, 869, 892, 915, 948, 961, 974], 111, 0, [])) k_L_law_33]
    rfl
  by_cases q21 : x = 21
  · subst q21
    rw [zX_unf (o := (.tableswitch 997 0 23 #[111, 164, 197, 246, 295, 358, 411, 444, 497, 520, 564, 607, 630, 653, 696, 719, 762, 806, 869, 892, 915, 948, 961, 974], 111, 0, [])) k_L_law_33]
    rfl
  by_cases q22 : x = 22
  · subst q22
    rw [zX_unf (o := (.tableswitch 997 0 23 #[111, 164, 197, 246, 295, 358, 411, 444, 497, 520, 564, 607, 630, 653, 696, 719, 762, 806, 869, 892, 915, 948, 961, 974], 111, 0, [])) k_L_law_33]
    rfl
  by_cases q23 : x = 23
  · subst q23
    rw [zX_unf (o := (.tableswitch 997 0 23 #[111, 164, 197, 246, 295, 358, 411, 444, 497, 520, 564, 607, 630, 653, 696, 719, 762, 806, 869, 892, 915, 948, 961, 974], 111, 0, [])) k_L_law_33]
    rfl
  rw [if_neg q0, if_neg q1, if_neg q2, if_neg q3, if_neg q4, if_neg q5, if_neg q6, if_neg q7, if_neg q8, if_neg q9, if_neg q10, if_neg q11, if_neg q12, if_neg q13, if_neg q14, if_neg q15, if_neg q16, if_neg q17, if_neg q18, if_neg q19, if_neg q20, if_neg q21, if_neg q22, if_neg q23]
  have z0 : x.toInt ≠ 0 := fun z => q0 (Int32.toInt_inj.mp (by rw [z]; decide))
  have z1 : x.toInt ≠ 1 := fun z => q1 (Int32.toInt_inj.mp (by rw [z]; decide))
  have z2 : x.toInt ≠ 2 := fun z => q2 (Int32.toInt_inj.mp (by rw [z]; decide))
  have z3 : x.toInt ≠ 3 := fun z => q3 (Int32.toInt_inj.mp (by rw [z]; decide))
  have z4 : x.toInt ≠ 4 := fun z => q4 (Int32.toInt_inj.mp (by rw [z]; decide))
  have z5 : x.toInt ≠ 5 := fun z => q5 (Int32.toInt_inj.mp (by rw [z]; decide))
  have z6 : x.toInt ≠ 6 := fun z => q6 (Int32.toInt_inj.mp (by rw [z]; decide))
  have z7 : x.toInt ≠ 7 := fun z => q7 (Int32.toInt_inj.mp (by rw [z]; decide))
  have z8 : x.toInt ≠ 8 := fun z => q8 (Int32.toInt_inj.mp (by rw [z]; decide))
  have z9 : x.toInt ≠ 9 := fun z => q9 (Int32.toInt_inj.mp (by rw [z]; decide))
  have z10 : x.toInt ≠ 10 := fun z => q10 (Int32.toInt_inj.mp (by rw [z]; decide))
  have z11 : x.toInt ≠ 11 := fun z => q11 (Int32.toInt_inj.mp (by rw [z]; decide))
  have z12 : x.toInt ≠ 12 := fun z => q12 (Int32.toInt_inj.mp (by rw [z]; decide))
  have z13 : x.toInt ≠ 13 := fun z => q13 (Int32.toInt_inj.mp (by rw [z]; decide))
  have z14 : x.toInt ≠ 14 := fun z => q14 (Int32.toInt_inj.mp (by rw [z]; decide))
  have z15 : x.toInt ≠ 15 := fun z => q15 (Int32.toInt_inj.mp (by rw [z]; decide))
  have z16 : x.toInt ≠ 16 := fun z => q16 (Int32.toInt_inj.mp (by rw [z]; decide))
  have z17 : x.toInt ≠ 17 := fun z => q17 (Int32.toInt_inj.mp (by rw [z]; decide))
  have z18 : x.toInt ≠ 18 := fun z => q18 (Int32.toInt_inj.mp (by rw [z]; decide))
  have z19 : x.toInt ≠ 19 := fun z => q19 (Int32.toInt_inj.mp (by rw [z]; decide))
  have z20 : x.toInt ≠ 20 := fun z => q20 (Int32.toInt_inj.mp (by rw [z]; decide))
  have z21 : x.toInt ≠ 21 := fun z => q21 (Int32.toInt_inj.mp (by rw [z]; decide))
  have z22 : x.toInt ≠ 22 := fun z => q22 (Int32.toInt_inj.mp (by rw [z]; decide))
  have z23 : x.toInt ≠ 23 := fun z => q23 (Int32.toInt_inj.mp (by rw [z]; decide))
  have hz : x.toInt < 0 ∨ 23 < x.toInt := by omega
  rw [zX_unf (o := (.tableswitch 997 0 23 #[111, 164, 197, 246, 295, 358, 411, 444, 497, 520, 564, 607, 630, 653, 696, 719, 762, 806, 869, 892, 915, 948, 961, 974], 111, 0, [])) k_L_law_33]
  simp only [zstp, ztab, hz, if_true]
  rfl
theorem k_L_law_144 : zlk tb_L_law 144 = some (.aload_n 1, 1, 0, []) := kj_L_law_0 (by decide) rfl
theorem u_L_law_144 {d : Nat} {st : List zV} {h : zH} {l0 l2 l3 : Option zV} {x : (Option Nat)} : zX d tb_L_law 144 [l0, some (.inr (.inr x)), l2, l3] st h = zX d tb_L_law 145 [l0, some (.inr (.inr x)), l2, l3] (.inr (.inr x) :: st) h := (zX_unf (o := (.aload_n 1, 1, 0, [])) k_L_law_144).trans rfl
theorem k_L_law_145 : zlk tb_L_law 145 = some (.aload_n 0, 1, 0, []) := kj_L_law_0 (by decide) rfl
theorem u_L_law_145 {d : Nat} {st : List zV} {h : zH} {l1 l2 l3 : Option zV} {x : (Option Nat)} : zX d tb_L_law 145 [some (.inr (.inr x)), l1, l2, l3] st h = zX d tb_L_law 146 [some (.inr (.inr x)), l1, l2, l3] (.inr (.inr x) :: st) h := (zX_unf (o := (.aload_n 0, 1, 0, [])) k_L_law_145).trans rfl
theorem k_L_law_146 : zlk tb_L_law 146 = some (.iload_n 3, 1, 0, []) := kj_L_law_0 (by decide) rfl
theorem u_L_law_146 {d : Nat} {st : List zV} {h : zH} {l0 l1 l2 : Option zV} {x : Int32} : zX d tb_L_law 146 [l0, l1, l2, some (.inl x)] st h = zX d tb_L_law 147 [l0, l1, l2, some (.inl x)] (.inl x :: st) h := (zX_unf (o := (.iload_n 3, 1, 0, [])) k_L_law_146).trans rfl
theorem k_L_law_147 : zlk tb_L_law 147 = some (.iconst 1, 1, 0, []) := kj_L_law_0 (by decide) rfl
theorem u_L_law_147 {d : Nat} {ls : zL} {st : List zV} {h : zH} : zX d tb_L_law 147 ls st h = zX d tb_L_law 148 ls (.inl 1 :: st) h := (zX_unf (o := (.iconst 1, 1, 0, [])) k_L_law_147).trans rfl
theorem k_L_law_148 : zlk tb_L_law 148 = some (.iadd, 1, 0, []) := kj_L_law_0 (by decide) rfl
theorem u_L_law_148 {d : Nat} {ls : zL} {st : List zV} {h : zH} {x y : Int32} : zX d tb_L_law 148 ls (.inl y :: .inl x :: st) h = zX d tb_L_law 149 ls (.inl (x + y) :: st) h := (zX_unf (o := (.iadd, 1, 0, [])) k_L_law_148).trans rfl
theorem k_L_law_149 : zlk tb_L_law 149 = some (.iaload, 1, 0, []) := kj_L_law_0 (by decide) rfl
theorem u_L_law_149 {d : Nat} {ls : zL} {st : List zV} {h : zH} {a : Nat} {i : Int32} : zX d tb_L_law 149 ls (.inl i :: .inr (.inr (some a)) :: st) h = if (zk h a).1 = 12 ∨ (zk h a).1 = 16 then (zix i (zk h a).2).bind fun j => zX d tb_L_law 150 ls (.inl (zi h a j) :: st) h else none := ux_ald k_L_law_149
theorem k_L_law_150 : zlk tb_L_law 150 = some (.aload_n 0, 1, 0, []) := kj_L_law_0 (by decide) rfl
theorem u_L_law_150 {d : Nat} {st : List zV} {h : zH} {l1 l2 l3 : Option zV} {x : (Option Nat)} : zX d tb_L_law 150 [some (.inr (.inr x)), l1, l2, l3] st h = zX d tb_L_law 151 [some (.inr (.inr x)), l1, l2, l3] (.inr (.inr x) :: st) h := (zX_unf (o := (.aload_n 0, 1, 0, [])) k_L_law_150).trans rfl
theorem k_L_law_151 : zlk tb_L_law 151 = some (.iload_n 3, 1, 0, []) := kj_L_law_0 (by decide) rfl
theorem u_L_law_151 {d : Nat} {st : List zV} {h : zH} {l0 l1 l2 : Option zV} {x : Int32} : zX d tb_L_law 151 [l0, l1, l2, some (.inl x)] st h = zX d tb_L_law 152 [l0, l1, l2, some (.inl x)] (.inl x :: st) h := (zX_unf (o := (.iload_n 3, 1, 0, [])) k_L_law_151).trans rfl
theorem k_L_law_152 : zlk tb_L_law 152 = some (.iconst 2, 1, 0, []) := kj_L_law_0 (by decide) rfl
theorem u_L_law_152 {d : Nat} {ls : zL} {st : List zV} {h : zH} : zX d tb_L_law 152 ls st h = zX d tb_L_law 153 ls (.inl 2 :: st) h := (zX_unf (o := (.iconst 2, 1, 0, [])) k_L_law_152).trans rfl
theorem k_L_law_153 : zlk tb_L_law 153 = some (.iadd, 1, 0, []) := kj_L_law_0 (by decide) rfl
theorem u_L_law_153 {d : Nat} {ls : zL} {st : List zV} {h : zH} {x y : Int32} : zX d tb_L_law 153 ls (.inl y :: .inl x :: st) h = zX d tb_L_law 154 ls (.inl (x + y) :: st) h := (zX_unf (o := (.iadd, 1, 0, [])) k_L_law_153).trans rfl
theorem k_L_law_154 : zlk tb_L_law 154 = some (.iaload, 1, 0, []) := kj_L_law_0 (by decide) rfl
theorem u_L_law_154 {d : Nat} {ls : zL} {st : List zV} {h : zH} {a : Nat} {i : Int32} : zX d tb_L_law 154 ls (.inl i :: .inr (.inr (some a)) :: st) h = if (zk h a).1 = 12 ∨ (zk h a).1 = 16 then (zix i (zk h a).2).bind fun j => zX d tb_L_law 155 ls (.inl (zi h a j) :: st) h else none := ux_ald k_L_law_154
theorem k_L_law_155 : zlk tb_L_law 155 = some (.aload_n 0, 1, 0, []) := kj_L_law_0 (by decide) rfl
theorem u_L_law_155 {d : Nat} {st : List zV} {h : zH} {l1 l2 l3 : Option zV} {x : (Option Nat)} : zX d tb_L_law 155 [some (.inr (.inr x)), l1, l2, l3] st h = zX d tb_L_law 156 [some (.inr (.inr x)), l1, l2, l3] (.inr (.inr x) :: st) h := (zX_unf (o := (.aload_n 0, 1, 0, [])) k_L_law_155).trans rfl
theorem k_L_law_156 : zlk tb_L_law 156 = some (.iload_n 3, 1, 0, []) := kj_L_law_0 (by decide) rfl
theorem u_L_law_156 {d : Nat} {st : List zV} {h : zH} {l0 l1 l2 : Option zV} {x : Int32} : zX d tb_L_law 156 [l0, l1, l2, some (.inl x)] st h = zX d tb_L_law 157 [l0, l1, l2, some (.inl x)] (.inl x :: st) h := (zX_unf (o := (.iload_n 3, 1, 0, [])) k_L_law_156).trans rfl
theorem k_L_law_157 : zlk tb_L_law 157 = some (.iconst 3, 1, 0, []) := kj_L_law_0 (by decide) rfl
theorem u_L_law_157 {d : Nat} {ls : zL} {st : List zV} {h : zH} : zX d tb_L_law 157 ls st h = zX d tb_L_law 158 ls (.inl 3 :: st) h := (zX_unf (o := (.iconst 3, 1, 0, [])) k_L_law_157).trans rfl
theorem k_L_law_158 : zlk tb_L_law 158 = some (.iadd, 1, 0, []) := kj_L_law_0 (by decide) rfl
theorem u_L_law_158 {d : Nat} {ls : zL} {st : List zV} {h : zH} {x y : Int32} : zX d tb_L_law 158 ls (.inl y :: .inl x :: st) h = zX d tb_L_law 159 ls (.inl (x + y) :: st) h := (zX_unf (o := (.iadd, 1, 0, [])) k_L_law_158).trans rfl
theorem k_L_law_159 : zlk tb_L_law 159 = some (.iaload, 1, 0, []) := kj_L_law_0 (by decide) rfl
theorem u_L_law_159 {d : Nat} {ls : zL} {st : List zV} {h : zH} {a : Nat} {i : Int32} : zX d tb_L_law 159 ls (.inl i :: .inr (.inr (some a)) :: st) h = if (zk h a).1 = 12 ∨ (zk h a).1 = 16 then (zix i (zk h a).2).bind fun j => zX d tb_L_law 160 ls (.inl (zi h a j) :: st) h else none := ux_ald k_L_law_159
theorem k_L_law_160 : zlk tb_L_law 160 = some (.aload_n 0, 1, 0, []) := kj_L_law_0 (by decide) rfl
theorem u_L_law_160 {d : Nat} {st : List zV} {h : zH} {l1 l2 l3 : Option zV} {x : (Option Nat)} : zX d tb_L_law 160 [some (.inr (.inr x)), l1, l2, l3] st h = zX d tb_L_law 161 [some (.inr (.inr x)), l1, l2, l3] (.inr (.inr x) :: st) h := (zX_unf (o := (.aload_n 0, 1, 0, [])) k_L_law_160).trans rfl
theorem k_L_law_161 : zlk tb_L_law 161 = some (.iload_n 3, 1, 0, []) := kj_L_law_0 (by decide) rfl
theorem u_L_law_161 {d : Nat} {st : List zV} {h : zH} {l0 l1 l2 : Option zV} {x : Int32} : zX d tb_L_law 161 [l0, l1, l2, some (.inl x)] st h = zX d tb_L_law 162 [l0, l1, l2, some (.inl x)] (.inl x :: st) h := (zX_unf (o := (.iload_n 3, 1, 0, [])) k_L_law_161).trans rfl
theorem k_L_law_162 : zlk tb_L_law 162 = some (.iconst 4, 1, 0, []) := kj_L_law_1 (by decide) rfl
theorem u_L_law_162 {d : Nat} {ls : zL} {st : List zV} {h : zH} : zX d tb_L_law 162 ls st h = zX d tb_L_law 163 ls (.inl 4 :: st) h := (zX_unf (o := (.iconst 4, 1, 0, [])) k_L_law_162).trans rfl
theorem k_L_law_163 : zlk tb_L_law 163 = some (.iadd, 1, 0, []) := kj_L_law_1 (by decide) rfl
theorem u_L_law_163 {d : Nat} {ls : zL} {st : List zV} {h : zH} {x y : Int32} : zX d tb_L_law 163 ls (.inl y :: .inl x :: st) h = zX d tb_L_law 164 ls (.inl (x + y) :: st) h := (zX_unf (o := (.iadd, 1, 0, [])) k_L_law_163).trans rfl
theorem k_L_law_164 : zlk tb_L_law 164 = some (.iaload, 1, 0, []) := kj_L_law_1 (by decide) rfl
theorem u_L_law_164 {d : Nat} {ls : zL} {st : List zV} {h : zH} {a : Nat} {i : Int32} : zX d tb_L_law 164 ls (.inl i :: .inr (.inr (some a)) :: st) h = if (zk h a).1 = 12 ∨ (zk h a).1 = 16 then (zix i (zk h a).2).bind fun j => zX d tb_L_law 165 ls (.inl (zi h a j) :: st) h else none := ux_ald k_L_law_164
theorem k_L_law_165 : zlk tb_L_law 165 = some (.invokevirtual 13, 3, 4, [(10, 53, 0, "", "")]) := kj_L_law_1 (by decide) rfl
theorem u_L_law_165 {d : Nat} {ls : zL} {h : zH} {a : Nat} {v0 : Int32} {v1 : Int32} {v2 : Int32} {v3 : Int32} : zX d tb_L_law 165 ls [.inl v3, .inl v2, .inl v1, .inl v0, .inr (.inr (some a))] h = if 10 = (zk h a).1 then (zcall (zP zM) d 53 [.inr (.inr (some a)), .inl v0, .inl v1, .inl v2, .inl v3] h).bind (fun q => zX d tb_L_law 168 ls (q.1.toList ++ []) q.2) else none := (ux_callV (t := [(10, 53, 0, "", "")]) (as := [.inl v0, .inl v1, .inl v2, .inl v3]) (r := []) k_L_law_165 (n := 4) rfl rfl rfl (Nat.le_of_ble_eq_true rfl)).trans (zfb_1 _ _)
theorem k_L_law_168 : zlk tb_L_law 168 = some (.aload_n 2, 1, 0, []) := kj_L_law_1 (by decide) rfl
theorem u_L_law_168 {d : Nat} {st : List zV} {h : zH} {l0 l1 l3 : Option zV} {x : (Option Nat)} : zX d tb_L_law 168 [l0, l1, some (.inr (.inr x)), l3] st h = zX d tb_L_law 169 [l0, l1, some (.inr (.inr x)), l3] (.inr (.inr x) :: st) h := (zX_unf (o := (.aload_n 2, 1, 0, [])) k_L_law_168).trans rfl
theorem k_L_law_169 : zlk tb_L_law 169 = some (.aload_n 0, 1, 0, []) := kj_L_law_1 (by decide) rfl
theorem u_L_law_169 {d : Nat} {st : List zV} {h : zH} {l1 l2 l3 : Option zV} {x : (Option Nat)} : zX d tb_L_law 169 [some (.inr (.inr x)), l1, l2, l3] st h = zX d tb_L_law 170 [some (.inr (.inr x)), l1, l2, l3] (.inr (.inr x) :: st) h := (zX_unf (o := (.aload_n 0, 1, 0, [])) k_L_law_169).trans rfl
theorem k_L_law_170 : zlk tb_L_law 170 = some (.iload_n 3, 1, 0, []) := kj_L_law_1 (by decide) rfl
theorem u_L_law_170 {d : Nat} {st : List zV} {h : zH} {l0 l1 l2 : Option zV} {x : Int32} : zX d tb_L_law 170 [l0, l1, l2, some (.inl x)] st h = zX d tb_L_law 171 [l0, l1, l2, some (.inl x)] (.inl x :: st) h := (zX_unf (o := (.iload_n 3, 1, 0, [])) k_L_law_170).trans rfl
theorem k_L_law_171 : zlk tb_L_law 171 = some (.iconst 1, 1, 0, []) := kj_L_law_1 (by decide) rfl
theorem u_L_law_171 {d : Nat} {ls : zL} {st : List zV} {h : zH} : zX d tb_L_law 171 ls st h = zX d tb_L_law 172 ls (.inl 1 :: st) h := (zX_unf (o := (.iconst 1, 1, 0, [])) k_L_law_171).trans rfl
theorem k_L_law_172 : zlk tb_L_law 172 = some (.iadd, 1, 0, []) := kj_L_law_1 (by decide) rfl
theorem u_L_law_172 {d : Nat} {ls : zL} {st : List zV} {h : zH} {x y : Int32} : zX d tb_L_law 172 ls (.inl y :: .inl x :: st) h = zX d tb_L_law 173 ls (.inl (x + y) :: st) h := (zX_unf (o := (.iadd, 1, 0, [])) k_L_law_172).trans rfl
theorem k_L_law_173 : zlk tb_L_law 173 = some (.iaload, 1, 0, []) := kj_L_law_1 (by decide) rfl
theorem u_L_law_173 {d : Nat} {ls : zL} {st : List zV} {h : zH} {a : Nat} {i : Int32} : zX d tb_L_law 173 ls (.inl i :: .inr (.inr (some a)) :: st) h = if (zk h a).1 = 12 ∨ (zk h a).1 = 16 then (zix i (zk h a).2).bind fun j => zX d tb_L_law 174 ls (.inl (zi h a j) :: st) h else none := ux_ald k_L_law_173
theorem k_L_law_174 : zlk tb_L_law 174 = some (.aload_n 0, 1, 0, []) := kj_L_law_1 (by decide) rfl
theorem u_L_law_174 {d : Nat} {st : List zV} {h : zH} {l1 l2 l3 : Option zV} {x : (Option Nat)} : zX d tb_L_law 174 [some (.inr (.inr x)), l1, l2, l3] st h = zX d tb_L_law 175 [some (.inr (.inr x)), l1, l2, l3] (.inr (.inr x) :: st) h := (zX_unf (o := (.aload_n 0, 1, 0, [])) k_L_law_174).trans rfl
theorem k_L_law_175 : zlk tb_L_law 175 = some (.iload_n 3, 1, 0, []) := kj_L_law_1 (by decide) rfl
theorem u_L_law_175 {d : Nat} {st : List zV} {h : zH} {l0 l1 l2 : Option zV} {x : Int32} : zX d tb_L_law 175 [l0, l1, l2, some (.inl x)] st h = zX d tb_L_law 176 [l0, l1, l2, some (.inl x)] (.inl x :: st) h := (zX_unf (o := (.iload_n 3, 1, 0, [])) k_L_law_175).trans rfl
theorem k_L_law_176 : zlk tb_L_law 176 = some (.iconst 2, 1, 0, []) := kj_L_law_1 (by decide) rfl
theorem u_L_law_176 {d : Nat} {ls : zL} {st : List zV} {h : zH} : zX d tb_L_law 176 ls st h = zX d tb_L_law 177 ls (.inl 2 :: st) h := (zX_unf (o := (.iconst 2, 1, 0, [])) k_L_law_176).trans rfl
theorem k_L_law_177 : zlk tb_L_law 177 = some (.iadd, 1, 0, []) := kj_L_law_1 (by decide) rfl
theorem u_L_law_177 {d : Nat} {ls : zL} {st : List zV} {h : zH} {x y : Int32} : zX d tb_L_law 177 ls (.inl y :: .inl x :: st) h = zX d tb_L_law 178 ls (.inl (x + y) :: st) h := (zX_unf (o := (.iadd, 1, 0, [])) k_L_law_177).trans rfl
theorem k_L_law_178 : zlk tb_L_law 178 = some (.iaload, 1, 0, []) := kj_L_law_1 (by decide) rfl
theorem u_L_law_178 {d : Nat} {ls : zL} {st : List zV} {h : zH} {a : Nat} {i : Int32} : zX d tb_L_law 178 ls (.inl i :: .inr (.inr (some a)) :: st) h = if (zk h a).1 = 12 ∨ (zk h a).1 = 16 then (zix i (zk h a).2).bind fun j => zX d tb_L_law 179 ls (.inl (zi h a j) :: st) h else none := ux_ald k_L_law_178
theorem k_L_law_179 : zlk tb_L_law 179 = some (.aload_n 0, 1, 0, []) := kj_L_law_1 (by decide) rfl
theorem u_L_law_179 {d : Nat} {st : List zV} {h : zH} {l1 l2 l3 : Option zV} {x : (Option Nat)} : zX d tb_L_law 179 [some (.inr (.inr x)), l1, l2, l3] st h = zX d tb_L_law 180 [some (.inr (.inr x)), l1, l2, l3] (.inr (.inr x) :: st) h := (zX_unf (o := (.aload_n 0, 1, 0, [])) k_L_law_179).trans rfl
theorem k_L_law_180 : zlk tb_L_law 180 = some (.iload_n 3, 1, 0, []) := kj_L_law_1 (by decide) rfl
theorem u_L_law_180 {d : Nat} {st : List zV} {h : zH} {l0 l1 l2 : Option zV} {x : Int32} : zX d tb_L_law 180 [l0, l1, l2, some (.inl x)] st h = zX d tb_L_law 181 [l0, l1, l2, some (.inl x)] (.inl x :: st) h := (zX_unf (o := (.iload_n 3, 1, 0, [])) k_L_law_180).trans rfl
theorem k_L_law_181 : zlk tb_L_law 181 = some (.iconst 3, 1, 0, []) := kj_L_law_1 (by decide) rfl
theorem u_L_law_181 {d : Nat} {ls : zL} {st : List zV} {h : zH} : zX d tb_L_law 181 ls st h = zX d tb_L_law 182 ls (.inl 3 :: st) h := (zX_unf (o := (.iconst 3, 1, 0, [])) k_L_law_181).trans rfl
theorem k_L_law_182 : zlk tb_L_law 182 = some (.iadd, 1, 0, []) := kj_L_law_1 (by decide) rfl
theorem u_L_law_182 {d : Nat} {ls : zL} {st : List zV} {h : zH} {x y : Int32} : zX d tb_L_law 182 ls (.inl y :: .inl x :: st) h = zX d tb_L_law 183 ls (.inl (x + y) :: st) h := (zX_unf (o := (.iadd, 1, 0, [])) k_L_law_182).trans rfl
theorem k_L_law_183 : zlk tb_L_law 183 = some (.iaload, 1, 0, []) := kj_L_law_1 (by decide) rfl
theorem u_L_law_183 {d : Nat} {ls : zL} {st : List zV} {h : zH} {a : Nat} {i : Int32} : zX d tb_L_law 183 ls (.inl i :: .inr (.inr (some a)) :: st) h = if (zk h a).1 = 12 ∨ (zk h a).1 = 16 then (zix i (zk h a).2).bind fun j => zX d tb_L_law 184 ls (.inl (zi h a j) :: st) h else none := ux_ald k_L_law_183
theorem k_L_law_184 : zlk tb_L_law 184 = some (.aload_n 0, 1, 0, []) := kj_L_law_1 (by decide) rfl
theorem u_L_law_184 {d : Nat} {st : List zV} {h : zH} {l1 l2 l3 : Option zV} {x : (Option Nat)} : zX d tb_L_law 184 [some (.inr (.inr x)), l1, l2, l3] st h = zX d tb_L_law 185 [some (.inr (.inr x)), l1, l2, l3] (.inr (.inr x) :: st) h := (zX_unf (o := (.aload_n 0, 1, 0, [])) k_L_law_184).trans rfl
theorem k_L_law_185 : zlk tb_L_law 185 = some (.iload_n 3, 1, 0, []) := kj_L_law_1 (by decide) rfl
theorem u_L_law_185 {d : Nat} {st : List zV} {h : zH} {l0 l1 l2 : Option zV} {x : Int32} : zX d tb_L_law 185 [l0, l1, l2, some (.inl x)] st h = zX d tb_L_law 186 [l0, l1, l2, some (.inl x)] (.inl x :: st) h := (zX_unf (o := (.iload_n 3, 1, 0, [])) k_L_law_185).trans rfl
theorem k_L_law_186 : zlk tb_L_law 186 = some (.iconst 4, 1, 0, []) := kj_L_law_1 (by decide) rfl
theorem u_L_law_186 {d : Nat} {ls : zL} {st : List zV} {h : zH} : zX d tb_L_law 186 ls st h = zX d tb_L_law 187 ls (.inl 4 :: st) h := (zX_unf (o := (.iconst 4, 1, 0, [])) k_L_law_186).trans rfl
theorem k_L_law_187 : zlk tb_L_law 187 = some (.iadd, 1, 0, []) := kj_L_law_1 (by decide) rfl
theorem u_L_law_187 {d : Nat} {ls : zL} {st : List zV} {h : zH} {x y : Int32} : zX d tb_L_law 187 ls (.inl y :: .inl x :: st) h = zX d tb_L_law 188 ls (.inl (x + y) :: st) h := (zX_unf (o := (.iadd, 1, 0, [])) k_L_law_187).trans rfl
theorem k_L_law_188 : zlk tb_L_law 188 = some (.iaload, 1, 0, []) := kj_L_law_1 (by decide) rfl
theorem u_L_law_188 {d : Nat} {ls : zL} {st : List zV} {h : zH} {a : Nat} {i : Int32} : zX d tb_L_law 188 ls (.inl i :: .inr (.inr (some a)) :: st) h = if (zk h a).1 = 12 ∨ (zk h a).1 = 16 then (zix i (zk h a).2).bind fun j => zX d tb_L_law 189 ls (.inl (zi h a j) :: st) h else none := ux_ald k_L_law_188
theorem k_L_law_189 : zlk tb_L_law 189 = some (.invokevirtual 17, 3, 4, [(11, 101, 0, "", "")]) := kj_L_law_1 (by decide) rfl
theorem u_L_law_189 {d : Nat} {ls : zL} {h : zH} {a : Nat} {v0 : Int32} {v1 : Int32} {v2 : Int32} {v3 : Int32} {r0 : zV} : zX d tb_L_law 189 ls [.inl v3, .inl v2, .inl v1, .inl v0, .inr (.inr (some a)), r0] h = if 11 = (zk h a).1 then (zcall (zP zM) d 101 [.inr (.inr (some a)), .inl v0, .inl v1, .inl v2, .inl v3] h).bind (fun q => zX d tb_L_law 192 ls (q.1.toList ++ [r0]) q.2) else none := (ux_callV (t := [(11, 101, 0, "", "")]) (as := [.inl v0, .inl v1, .inl v2, .inl v3]) (r := [r0]) k_L_law_189 (n := 4) rfl rfl rfl (Nat.le_of_ble_eq_true rfl)).trans (zfb_1 _ _)
theorem k_L_law_192 : zlk tb_L_law 192 = some (.if_icmp .eq 838, 3, 0, []) := kj_L_law_1 (by decide) rfl
theorem u_L_law_192 {d : Nat} {ls : zL} {st : List zV} {h : zH} {x y : Int32} : zX d tb_L_law 192 ls (.inl y :: .inl x :: st) h = if x = y then zX d tb_L_law 1030 ls st h else zX d tb_L_law 195 ls st h := ux_ic_eq k_L_law_192 (by decide)
theorem k_L_law_195 : zlk tb_L_law 195 = some (.iconst 0, 1, 0, []) := kj_L_law_1 (by decide) rfl
theorem u_L_law_195 {d : Nat} {ls : zL} {st : List zV} {h : zH} : zX d tb_L_law 195 ls st h = zX d tb_L_law 196 ls (.inl 0 :: st) h := (zX_unf (o := (.iconst 0, 1, 0, [])) k_L_law_195).trans rfl
theorem k_L_law_196 : zlk tb_L_law 196 = some (.ireturn, 1, 1, []) := kj_L_law_1 (by decide) rfl
theorem u_L_law_196 {d : Nat} {ls : zL} {h : zH} {v : Int32} : zX d tb_L_law 196 ls [.inl v] h = if v = 0 ∨ v = 1 then some (some (.inl v), h) else none := ux_zret k_L_law_196
theorem k_L_law_197 : zlk tb_L_law 197 = some (.aload_n 1, 1, 0, []) := kj_L_law_1 (by decide) rfl
theorem u_L_law_197 {d : Nat} {st : List zV} {h : zH} {l0 l2 l3 : Option zV} {x : (Option Nat)} : zX d tb_L_law 197 [l0, some (.inr (.inr x)), l2, l3] st h = zX d tb_L_law 198 [l0, some (.inr (.inr x)), l2, l3] (.inr (.inr x) :: st) h := (zX_unf (o := (.aload_n 1, 1, 0, [])) k_L_law_197).trans rfl
theorem k_L_law_198 : zlk tb_L_law 198 = some (.aload_n 0, 1, 0, []) := kj_L_law_1 (by decide) rfl
theorem u_L_law_198 {d : Nat} {st : List zV} {h : zH} {l1 l2 l3 : Option zV} {x : (Option Nat)} : zX d tb_L_law 198 [some (.inr (.inr x)), l1, l2, l3] st h = zX d tb_L_law 199 [some (.inr (.inr x)), l1, l2, l3] (.inr (.inr x) :: st) h := (zX_unf (o := (.aload_n 0, 1, 0, [])) k_L_law_198).trans rfl
theorem k_L_law_199 : zlk tb_L_law 199 = some (.iload_n 3, 1, 0, []) := kj_L_law_1 (by decide) rfl
theorem u_L_law_199 {d : Nat} {st : List zV} {h : zH} {l0 l1 l2 : Option zV} {x : Int32} : zX d tb_L_law 199 [l0, l1, l2, some (.inl x)] st h = zX d tb_L_law 200 [l0, l1, l2, some (.inl x)] (.inl x :: st) h := (zX_unf (o := (.iload_n 3, 1, 0, [])) k_L_law_199).trans rfl
theorem k_L_law_200 : zlk tb_L_law 200 = some (.iconst 1, 1, 0, []) := kj_L_law_1 (by decide) rfl
theorem u_L_law_200 {d : Nat} {ls : zL} {st : List zV} {h : zH} : zX d tb_L_law 200 ls st h = zX d tb_L_law 201 ls (.inl 1 :: st) h := (zX_unf (o := (.iconst 1, 1, 0, [])) k_L_law_200).trans rfl
theorem k_L_law_201 : zlk tb_L_law 201 = some (.iadd, 1, 0, []) := kj_L_law_1 (by decide) rfl
theorem u_L_law_201 {d : Nat} {ls : zL} {st : List zV} {h : zH} {x y : Int32} : zX d tb_L_law 201 ls (.inl y :: .inl x :: st) h = zX d tb_L_law 202 ls (.inl (x + y) :: st) h := (zX_unf (o := (.iadd, 1, 0, [])) k_L_law_201).trans rfl
theorem k_L_law_202 : zlk tb_L_law 202 = some (.iaload, 1, 0, []) := kj_L_law_1 (by decide) rfl
theorem u_L_law_202 {d : Nat} {ls : zL} {st : List zV} {h : zH} {a : Nat} {i : Int32} : zX d tb_L_law 202 ls (.inl i :: .inr (.inr (some a)) :: st) h = if (zk h a).1 = 12 ∨ (zk h a).1 = 16 then (zix i (zk h a).2).bind fun j => zX d tb_L_law 203 ls (.inl (zi h a j) :: st) h else none := ux_ald k_L_law_202
theorem k_L_law_203 : zlk tb_L_law 203 = some (.aload_n 0, 1, 0, []) := kj_L_law_1 (by decide) rfl
theorem u_L_law_203 {d : Nat} {st : List zV} {h : zH} {l1 l2 l3 : Option zV} {x : (Option Nat)} : zX d tb_L_law 203 [some (.inr (.inr x)), l1, l2, l3] st h = zX d tb_L_law 204 [some (.inr (.inr x)), l1, l2, l3] (.inr (.inr x) :: st) h := (zX_unf (o := (.aload_n 0, 1, 0, [])) k_L_law_203).trans rfl
theorem k_L_law_204 : zlk tb_L_law 204 = some (.iload_n 3, 1, 0, []) := kj_L_law_1 (by decide) rfl
theorem u_L_law_204 {d : Nat} {st : List zV} {h : zH} {l0 l1 l2 : Option zV} {x : Int32} : zX d tb_L_law 204 [l0, l1, l2, some (.inl x)] st h = zX d tb_L_law 205 [l0, l1, l2, some (.inl x)] (.inl x :: st) h := (zX_unf (o := (.iload_n 3, 1, 0, [])) k_L_law_204).trans rfl
theorem k_L_law_205 : zlk tb_L_law 205 = some (.iconst 2, 1, 0, []) := kj_L_law_1 (by decide) rfl
theorem u_L_law_205 {d : Nat} {ls : zL} {st : List zV} {h : zH} : zX d tb_L_law 205 ls st h = zX d tb_L_law 206 ls (.inl 2 :: st) h := (zX_unf (o := (.iconst 2, 1, 0, [])) k_L_law_205).trans rfl
theorem k_L_law_206 : zlk tb_L_law 206 = some (.iadd, 1, 0, []) := kj_L_law_1 (by decide) rfl
theorem u_L_law_206 {d : Nat} {ls : zL} {st : List zV} {h : zH} {x y : Int32} : zX d tb_L_law 206 ls (.inl y :: .inl x :: st) h = zX d tb_L_law 207 ls (.inl (x + y) :: st) h := (zX_unf (o := (.iadd, 1, 0, [])) k_L_law_206).trans rfl
theorem k_L_law_207 : zlk tb_L_law 207 = some (.iaload, 1, 0, []) := kj_L_law_1 (by decide) rfl
theorem u_L_law_207 {d : Nat} {ls : zL} {st : List zV} {h : zH} {a : Nat} {i : Int32} : zX d tb_L_law 207 ls (.inl i :: .inr (.inr (some a)) :: st) h = if (zk h a).1 = 12 ∨ (zk h a).1 = 16 then (zix i (zk h a).2).bind fun j => zX d tb_L_law 208 ls (.inl (zi h a j) :: st) h else none := ux_ald k_L_law_207
theorem k_L_law_208 : zlk tb_L_law 208 = some (.invokevirtual 18, 3, 2, [(10, 54, 0, "", "")]) := kj_L_law_2 (by decide) rfl
theorem u_L_law_208 {d : Nat} {ls : zL} {h : zH} {a : Nat} {v0 : Int32} {v1 : Int32} : zX d tb_L_law 208 ls [.inl v1, .inl v0, .inr (.inr (some a))] h = if 10 = (zk h a).1 then (zcall (zP zM) d 54 [.inr (.inr (some a)), .inl v0, .inl v1] h).bind (fun q => zX d tb_L_law 211 ls (q.1.toList ++ []) q.2) else none := (ux_callV (t := [(10, 54, 0, "", "")]) (as := [.inl v0, .inl v1]) (r := []) k_L_law_208 (n := 2) rfl rfl rfl (Nat.le_of_ble_eq_true rfl)).trans (zfb_1 _ _)
theorem k_L_law_211 : zlk tb_L_law 211 = some (.aload_n 2, 1, 0, []) := kj_L_law_2 (by decide) rfl
theorem u_L_law_211 {d : Nat} {st : List zV} {h : zH} {l0 l1 l3 : Option zV} {x : (Option Nat)} : zX d tb_L_law 211 [l0, l1, some (.inr (.inr x)), l3] st h = zX d tb_L_law 212 [l0, l1, some (.inr (.inr x)), l3] (.inr (.inr x) :: st) h := (zX_unf (o := (.aload_n 2, 1, 0, [])) k_L_law_211).trans rfl
theorem k_L_law_212 : zlk tb_L_law 212 = some (.aload_n 0, 1, 0, []) := kj_L_law_2 (by decide) rfl
theorem u_L_law_212 {d : Nat} {st : List zV} {h : zH} {l1 l2 l3 : Option zV} {x : (Option Nat)} : zX d tb_L_law 212 [some (.inr (.inr x)), l1, l2, l3] st h = zX d tb_L_law 213 [some (.inr (.inr x)), l1, l2, l3] (.inr (.inr x) :: st) h := (zX_unf (o := (.aload_n 0, 1, 0, [])) k_L_law_212).trans rfl
theorem k_L_law_213 : zlk tb_L_law 213 = some (.iload_n 3, 1, 0, []) := kj_L_law_2 (by decide) rfl
theorem u_L_law_213 {d : Nat} {st : List zV} {h : zH} {l0 l1 l2 : Option zV} {x : Int32} : zX d tb_L_law 213 [l0, l1, l2, some (.inl x)] st h = zX d tb_L_law 214 [l0, l1, l2, some (.inl x)] (.inl x :: st) h := (zX_unf (o := (.iload_n 3, 1, 0, [])) k_L_law_213).trans rfl
theorem k_L_law_214 : zlk tb_L_law 214 = some (.iconst 1, 1, 0, []) := kj_L_law_2 (by decide) rfl
theorem u_L_law_214 {d : Nat} {ls : zL} {st : List zV} {h : zH} : zX d tb_L_law 214 ls st h = zX d tb_L_law 215 ls (.inl 1 :: st) h := (zX_unf (o := (.iconst 1, 1, 0, [])) k_L_law_214).trans rfl
theorem k_L_law_215 : zlk tb_L_law 215 = some (.iadd, 1, 0, []) := kj_L_law_2 (by decide) rfl
theorem u_L_law_215 {d : Nat} {ls : zL} {st : List zV} {h : zH} {x y : Int32} : zX d tb_L_law 215 ls (.inl y :: .inl x :: st) h = zX d tb_L_law 216 ls (.inl (x + y) :: st) h := (zX_unf (o := (.iadd, 1, 0, [])) k_L_law_215).trans rfl
theorem k_L_law_216 : zlk tb_L_law 216 = some (.iaload, 1, 0, []) := kj_L_law_2 (by decide) rfl
theorem u_L_law_216 {d : Nat} {ls : zL} {st : List zV} {h : zH} {a : Nat} {i : Int32} : zX d tb_L_law 216 ls (.inl i :: .inr (.inr (some a)) :: st) h = if (zk h a).1 = 12 ∨ (zk h a).1 = 16 then (zix i (zk h a).2).bind fun j => zX d tb_L_law 217 ls (.inl (zi h a j) :: st) h else none := ux_ald k_L_law_216
theorem k_L_law_217 : zlk tb_L_law 217 = some (.aload_n 0, 1, 0, []) := kj_L_law_2 (by decide) rfl
theorem u_L_law_217 {d : Nat} {st : List zV} {h : zH} {l1 l2 l3 : Option zV} {x : (Option Nat)} : zX d tb_L_law 217 [some (.inr (.inr x)), l1, l2, l3] st h = zX d tb_L_law 218 [some (.inr (.inr x)), l1, l2, l3] (.inr (.inr x) :: st) h := (zX_unf (o := (.aload_n 0, 1, 0, [])) k_L_law_217).trans rfl
theorem k_L_law_218 : zlk tb_L_law 218 = some (.iload_n 3, 1, 0, []) := kj_L_law_2 (by decide) rfl
theorem u_L_law_218 {d : Nat} {st : List zV} {h : zH} {l0 l1 l2 : Option zV} {x : Int32} : zX d tb_L_law 218 [l0, l1, l2, some (.inl x)] st h = zX d tb_L_law 219 [l0, l1, l2, some (.inl x)] (.inl x :: st) h := (zX_unf (o := (.iload_n 3, 1, 0, [])) k_L_law_218).trans rfl
theorem k_L_law_219 : zlk tb_L_law 219 = some (.iconst 2, 1, 0, []) := kj_L_law_2 (by decide) rfl
theorem u_L_law_219 {d : Nat} {ls : zL} {st : List zV} {h : zH} : zX d tb_L_law 219 ls st h = zX d tb_L_law 220 ls (.inl 2 :: st) h := (zX_unf (o := (.iconst 2, 1, 0, [])) k_L_law_219).trans rfl
theorem k_L_law_220 : zlk tb_L_law 220 = some (.iadd, 1, 0, []) := kj_L_law_2 (by decide) rfl
theorem u_L_law_220 {d : Nat} {ls : zL} {st : List zV} {h : zH} {x y : Int32} : zX d tb_L_law 220 ls (.inl y :: .inl x :: st) h = zX d tb_L_law 221 ls (.inl (x + y) :: st) h := (zX_unf (o := (.iadd, 1, 0, [])) k_L_law_220).trans rfl
theorem k_L_law_221 : zlk tb_L_law 221 = some (.iaload, 1, 0, []) := kj_L_law_2 (by decide) rfl
theorem u_L_law_221 {d : Nat} {ls : zL} {st : List zV} {h : zH} {a : Nat} {i : Int32} : zX d tb_L_law 221 ls (.inl i :: .inr (.inr (some a)) :: st) h = if (zk h a).1 = 12 ∨ (zk h a).1 = 16 then (zix i (zk h a).2).bind fun j => zX d tb_L_law 222 ls (.inl (zi h a j) :: st) h else none := ux_ald k_L_law_221
theorem k_L_law_222 : zlk tb_L_law 222 = some (.invokevirtual 22, 3, 2, [(11, 103, 0, "", "")]) := kj_L_law_2 (by decide) rfl
theorem u_L_law_222 {d : Nat} {ls : zL} {h : zH} {a : Nat} {v0 : Int32} {v1 : Int32} {r0 : zV} : zX d tb_L_law 222 ls [.inl v1, .inl v0, .inr (.inr (some a)), r0] h = if 11 = (zk h a).1 then (zcall (zP zM) d 103 [.inr (.inr (some a)), .inl v0, .inl v1] h).bind (fun q => zX d tb_L_law 225 ls (q.1.toList ++ [r0]) q.2) else none := (ux_callV (t := [(11, 103, 0, "", "")]) (as := [.inl v0, .inl v1]) (r := [r0]) k_L_law_222 (n := 2) rfl rfl rfl (Nat.le_of_ble_eq_true rfl)).trans (zfb_1 _ _)
theorem k_L_law_225 : zlk tb_L_law 225 = some (.if_icmp .eq 805, 3, 0, []) := kj_L_law_2 (by decide) rfl
theorem u_L_law_225 {d : Nat} {ls : zL} {st : List zV} {h : zH} {x y : Int32} : zX d tb_L_law 225 ls (.inl y :: .inl x :: st) h = if x = y then zX d tb_L_law 1030 ls st h else zX d tb_L_law 228 ls st h := ux_ic_eq k_L_law_225 (by decide)
theorem k_L_law_228 : zlk tb_L_law 228 = some (.iconst 0, 1, 0, []) := kj_L_law_2 (by decide) rfl
theorem u_L_law_228 {d : Nat} {ls : zL} {st : List zV} {h : zH} : zX d tb_L_law 228 ls st h = zX d tb_L_law 229 ls (.inl 0 :: st) h := (zX_unf (o := (.iconst 0, 1, 0, [])) k_L_law_228).trans rfl
theorem k_L_law_229 : zlk tb_L_law 229 = some (.ireturn, 1, 1, []) := kj_L_law_2 (by decide) rfl
theorem u_L_law_229 {d : Nat} {ls : zL} {h : zH} {v : Int32} : zX d tb_L_law 229 ls [.inl v] h = if v = 0 ∨ v = 1 then some (some (.inl v), h) else none := ux_zret k_L_law_229
theorem k_L_law_230 : zlk tb_L_law 230 = some (.aload_n 1, 1, 0, []) := kj_L_law_2 (by decide) rfl
theorem u_L_law_230 {d : Nat} {st : List zV} {h : zH} {l0 l2 l3 : Option zV} {x : (Option Nat)} : zX d tb_L_law 230 [l0, some (.inr (.inr x)), l2, l3] st h = zX d tb_L_law 231 [l0, some (.inr (.inr x)), l2, l3] (.inr (.inr x) :: st) h := (zX_unf (o := (.aload_n 1, 1, 0, [])) k_L_law_230).trans rfl
theorem k_L_law_231 : zlk tb_L_law 231 = some (.aload_n 0, 1, 0, []) := kj_L_law_2 (by decide) rfl
theorem u_L_law_231 {d : Nat} {st : List zV} {h : zH} {l1 l2 l3 : Option zV} {x : (Option Nat)} : zX d tb_L_law 231 [some (.inr (.inr x)), l1, l2, l3] st h = zX d tb_L_law 232 [some (.inr (.inr x)), l1, l2, l3] (.inr (.inr x) :: st) h := (zX_unf (o := (.aload_n 0, 1, 0, [])) k_L_law_231).trans rfl
theorem k_L_law_232 : zlk tb_L_law 232 = some (.iload_n 3, 1, 0, []) := kj_L_law_2 (by decide) rfl
theorem u_L_law_232 {d : Nat} {st : List zV} {h : zH} {l0 l1 l2 : Option zV} {x : Int32} : zX d tb_L_law 232 [l0, l1, l2, some (.inl x)] st h = zX d tb_L_law 233 [l0, l1, l2, some (.inl x)] (.inl x :: st) h := (zX_unf (o := (.iload_n 3, 1, 0, [])) k_L_law_232).trans rfl
theorem k_L_law_233 : zlk tb_L_law 233 = some (.iconst 1, 1, 0, []) := kj_L_law_2 (by decide) rfl
theorem u_L_law_233 {d : Nat} {ls : zL} {st : List zV} {h : zH} : zX d tb_L_law 233 ls st h = zX d tb_L_law 234 ls (.inl 1 :: st) h := (zX_unf (o := (.iconst 1, 1, 0, [])) k_L_law_233).trans rfl
theorem k_L_law_234 : zlk tb_L_law 234 = some (.iadd, 1, 0, []) := kj_L_law_2 (by decide) rfl
theorem u_L_law_234 {d : Nat} {ls : zL} {st : List zV} {h : zH} {x y : Int32} : zX d tb_L_law 234 ls (.inl y :: .inl x :: st) h = zX d tb_L_law 235 ls (.inl (x + y) :: st) h := (zX_unf (o := (.iadd, 1, 0, [])) k_L_law_234).trans rfl
theorem k_L_law_235 : zlk tb_L_law 235 = some (.iaload, 1, 0, []) := kj_L_law_2 (by decide) rfl
theorem u_L_law_235 {d : Nat} {ls : zL} {st : List zV} {h : zH} {a : Nat} {i : Int32} : zX d tb_L_law 235 ls (.inl i :: .inr (.inr (some a)) :: st) h = if (zk h a).1 = 12 ∨ (zk h a).1 = 16 then (zix i (zk h a).2).bind fun j => zX d tb_L_law 236 ls (.inl (zi h a j) :: st) h else none := ux_ald k_L_law_235
theorem k_L_law_236 : zlk tb_L_law 236 = some (.aload_n 0, 1, 0, []) := kj_L_law_2 (by decide) rfl
theorem u_L_law_236 {d : Nat} {st : List zV} {h : zH} {l1 l2 l3 : Option zV} {x : (Option Nat)} : zX d tb_L_law 236 [some (.inr (.inr x)), l1, l2, l3] st h = zX d tb_L_law 237 [some (.inr (.inr x)), l1, l2, l3] (.inr (.inr x) :: st) h := (zX_unf (o := (.aload_n 0, 1, 0, [])) k_L_law_236).trans rfl
theorem k_L_law_237 : zlk tb_L_law 237 = some (.iload_n 3, 1, 0, []) := kj_L_law_2 (by decide) rfl
theorem u_L_law_237 {d : Nat} {st : List zV} {h : zH} {l0 l1 l2 : Option zV} {x : Int32} : zX d tb_L_law 237 [l0, l1, l2, some (.inl x)] st h = zX d tb_L_law 238 [l0, l1, l2, some (.inl x)] (.inl x :: st) h := (zX_unf (o := (.iload_n 3, 1, 0, [])) k_L_law_237).trans rfl
theorem k_L_law_238 : zlk tb_L_law 238 = some (.iconst 2, 1, 0, []) := kj_L_law_2 (by decide) rfl
theorem u_L_law_238 {d : Nat} {ls : zL} {st : List zV} {h : zH} : zX d tb_L_law 238 ls st h = zX d tb_L_law 239 ls (.inl 2 :: st) h := (zX_unf (o := (.iconst 2, 1, 0, [])) k_L_law_238).trans rfl
theorem k_L_law_239 : zlk tb_L_law 239 = some (.iadd, 1, 0, []) := kj_L_law_2 (by decide) rfl
theorem u_L_law_239 {d : Nat} {ls : zL} {st : List zV} {h : zH} {x y : Int32} : zX d tb_L_law 239 ls (.inl y :: .inl x :: st) h = zX d tb_L_law 240 ls (.inl (x + y) :: st) h := (zX_unf (o := (.iadd, 1, 0, [])) k_L_law_239).trans rfl
theorem k_L_law_240 : zlk tb_L_law 240 = some (.iaload, 1, 0, []) := kj_L_law_2 (by decide) rfl
theorem u_L_law_240 {d : Nat} {ls : zL} {st : List zV} {h : zH} {a : Nat} {i : Int32} : zX d tb_L_law 240 ls (.inl i :: .inr (.inr (some a)) :: st) h = if (zk h a).1 = 12 ∨ (zk h a).1 = 16 then (zix i (zk h a).2).bind fun j => zX d tb_L_law 241 ls (.inl (zi h a j) :: st) h else none := ux_ald k_L_law_240
theorem k_L_law_241 : zlk tb_L_law 241 = some (.ifCond .eq 7, 3, 0, []) := kj_L_law_2 (by decide) rfl
theorem u_L_law_241 {d : Nat} {ls : zL} {st : List zV} {h : zH} {x : Int32} : zX d tb_L_law 241 ls (.inl x :: st) h = if x = 0 then zX d tb_L_law 248 ls st h else zX d tb_L_law 244 ls st h := ux_if_eq k_L_law_241 (by decide)
theorem k_L_law_244 : zlk tb_L_law 244 = some (.iconst 1, 1, 0, []) := kj_L_law_2 (by decide) rfl
theorem u_L_law_244 {d : Nat} {ls : zL} {st : List zV} {h : zH} : zX d tb_L_law 244 ls st h = zX d tb_L_law 245 ls (.inl 1 :: st) h := (zX_unf (o := (.iconst 1, 1, 0, [])) k_L_law_244).trans rfl
theorem k_L_law_245 : zlk tb_L_law 245 = some (.goto 4, 3, 0, []) := kj_L_law_2 (by decide) rfl
theorem u_L_law_245 {d : Nat} {ls : zL} {st : List zV} {h : zH} : zX d tb_L_law 245 ls st h = zX d tb_L_law 249 ls st h := ux_goto k_L_law_245 (by decide)
theorem k_L_law_248 : zlk tb_L_law 248 = some (.iconst 0, 1, 0, []) := kj_L_law_2 (by decide) rfl
theorem u_L_law_248 {d : Nat} {ls : zL} {st : List zV} {h : zH} : zX d tb_L_law 248 ls st h = zX d tb_L_law 249 ls (.inl 0 :: st) h := (zX_unf (o := (.iconst 0, 1, 0, [])) k_L_law_248).trans rfl
theorem k_L_law_249 : zlk tb_L_law 249 = some (.invokevirtual 23, 3, 2, [(10, 55, 0, "", "")]) := kj_L_law_2 (by decide) rfl
theorem u_L_law_249 {d : Nat} {ls : zL} {h : zH} {a : Nat} {v0 : Int32} {v1 : Int32} : zX d tb_L_law 249 ls [.inl v1, .inl v0, .inr (.inr (some a))] h = if 10 = (zk h a).1 then (zcall (zP zM) d 55 [.inr (.inr (some a)), .inl v0, .inl v1] h).bind (fun q => zX d tb_L_law 252 ls (q.1.toList ++ []) q.2) else none := (ux_callV (t := [(10, 55, 0, "", "")]) (as := [.inl v0, .inl v1]) (r := []) k_L_law_249 (n := 2) rfl rfl rfl (Nat.le_of_ble_eq_true rfl)).trans (zfb_1 _ _)
theorem k_L_law_252 : zlk tb_L_law 252 = some (.aload_n 2, 1, 0, []) := kj_L_law_2 (by decide) rfl
theorem u_L_law_252 {d : Nat} {st : List zV} {h : zH} {l0 l1 l3 : Option zV} {x : (Option Nat)} : zX d tb_L_law 252 [l0, l1, some (.inr (.inr x)), l3] st h = zX d tb_L_law 253 [l0, l1, some (.inr (.inr x)), l3] (.inr (.inr x) :: st) h := (zX_unf (o := (.aload_n 2, 1, 0, [])) k_L_law_252).trans rfl
theorem k_L_law_253 : zlk tb_L_law 253 = some (.aload_n 0, 1, 0, []) := kj_L_law_2 (by decide) rfl
theorem u_L_law_253 {d : Nat} {st : List zV} {h : zH} {l1 l2 l3 : Option zV} {x : (Option Nat)} : zX d tb_L_law 253 [some (.inr (.inr x)), l1, l2, l3] st h = zX d tb_L_law 254 [some (.inr (.inr x)), l1, l2, l3] (.inr (.inr x) :: st) h := (zX_unf (o := (.aload_n 0, 1, 0, [])) k_L_law_253).trans rfl
theorem k_L_law_254 : zlk tb_L_law 254 = some (.iload_n 3, 1, 0, []) := kj_L_law_2 (by decide) rfl
theorem u_L_law_254 {d : Nat} {st : List zV} {h : zH} {l0 l1 l2 : Option zV} {x : Int32} : zX d tb_L_law 254 [l0, l1, l2, some (.inl x)] st h = zX d tb_L_law 255 [l0, l1, l2, some (.inl x)] (.inl x :: st) h := (zX_unf (o := (.iload_n 3, 1, 0, [])) k_L_law_254).trans rfl
theorem k_L_law_255 : zlk tb_L_law 255 = some (.iconst 1, 1, 0, []) := kj_L_law_2 (by decide) rfl
theorem u_L_law_255 {d : Nat} {ls : zL} {st : List zV} {h : zH} : zX d tb_L_law 255 ls st h = zX d tb_L_law 256 ls (.inl 1 :: st) h := (zX_unf (o := (.iconst 1, 1, 0, [])) k_L_law_255).trans rfl
theorem k_L_law_256 : zlk tb_L_law 256 = some (.iadd, 1, 0, []) := kj_L_law_2 (by decide) rfl
theorem u_L_law_256 {d : Nat} {ls : zL} {st : List zV} {h : zH} {x y : Int32} : zX d tb_L_law 256 ls (.inl y :: .inl x :: st) h = zX d tb_L_law 257 ls (.inl (x + y) :: st) h := (zX_unf (o := (.iadd, 1, 0, [])) k_L_law_256).trans rfl
theorem k_L_law_257 : zlk tb_L_law 257 = some (.iaload, 1, 0, []) := kj_L_law_2 (by decide) rfl
theorem u_L_law_257 {d : Nat} {ls : zL} {st : List zV} {h : zH} {a : Nat} {i : Int32} : zX d tb_L_law 257 ls (.inl i :: .inr (.inr (some a)) :: st) h = if (zk h a).1 = 12 ∨ (zk h a).1 = 16 then (zix i (zk h a).2).bind fun j => zX d tb_L_law 258 ls (.inl (zi h a j) :: st) h else none := ux_ald k_L_law_257
theorem k_L_law_258 : zlk tb_L_law 258 = some (.aload_n 0, 1, 0, []) := kj_L_law_2 (by decide) rfl
theorem u_L_law_258 {d : Nat} {st : List zV} {h : zH} {l1 l2 l3 : Option zV} {x : (Option Nat)} : zX d tb_L_law 258 [some (.inr (.inr x)), l1, l2, l3] st h = zX d tb_L_law 259 [some (.inr (.inr x)), l1, l2, l3] (.inr (.inr x) :: st) h := (zX_unf (o := (.aload_n 0, 1, 0, [])) k_L_law_258).trans rfl
theorem k_L_law_259 : zlk tb_L_law 259 = some (.iload_n 3, 1, 0, []) := kj_L_law_2 (by decide) rfl
theorem u_L_law_259 {d : Nat} {st : List zV} {h : zH} {l0 l1 l2 : Option zV} {x : Int32} : zX d tb_L_law 259 [l0, l1, l2, some (.inl x)] st h = zX d tb_L_law 260 [l0, l1, l2, some (.inl x)] (.inl x :: st) h := (zX_unf (o := (.iload_n 3, 1, 0, [])) k_L_law_259).trans rfl
theorem k_L_law_260 : zlk tb_L_law 260 = some (.iconst 2, 1, 0, []) := kj_L_law_3 (by decide) rfl
theorem u_L_law_260 {d : Nat} {ls : zL} {st : List zV} {h : zH} : zX d tb_L_law 260 ls st h = zX d tb_L_law 261 ls (.inl 2 :: st) h := (zX_unf (o := (.iconst 2, 1, 0, [])) k_L_law_260).trans rfl
theorem k_L_law_261 : zlk tb_L_law 261 = some (.iadd, 1, 0, []) := kj_L_law_3 (by decide) rfl
theorem u_L_law_261 {d : Nat} {ls : zL} {st : List zV} {h : zH} {x y : Int32} : zX d tb_L_law 261 ls (.inl y :: .inl x :: st) h = zX d tb_L_law 262 ls (.inl (x + y) :: st) h := (zX_unf (o := (.iadd, 1, 0, [])) k_L_law_261).trans rfl
theorem k_L_law_262 : zlk tb_L_law 262 = some (.iaload, 1, 0, []) := kj_L_law_3 (by decide) rfl
theorem u_L_law_262 {d : Nat} {ls : zL} {st : List zV} {h : zH} {a : Nat} {i : Int32} : zX d tb_L_law 262 ls (.inl i :: .inr (.inr (some a)) :: st) h = if (zk h a).1 = 12 ∨ (zk h a).1 = 16 then (zix i (zk h a).2).bind fun j => zX d tb_L_law 263 ls (.inl (zi h a j) :: st) h else none := ux_ald k_L_law_262
theorem k_L_law_263 : zlk tb_L_law 263 = some (.ifCond .eq 7, 3, 0, []) := kj_L_law_3 (by decide) rfl
theorem u_L_law_263 {d : Nat} {ls : zL} {st : List zV} {h : zH} {x : Int32} : zX d tb_L_law 263 ls (.inl x :: st) h = if x = 0 then zX d tb_L_law 270 ls st h else zX d tb_L_law 266 ls st h := ux_if_eq k_L_law_263 (by decide)
theorem k_L_law_266 : zlk tb_L_law 266 = some (.iconst 1, 1, 0, []) := kj_L_law_3 (by decide) rfl
theorem u_L_law_266 {d : Nat} {ls : zL} {st : List zV} {h : zH} : zX d tb_L_law 266 ls st h = zX d tb_L_law 267 ls (.inl 1 :: st) h := (zX_unf (o := (.iconst 1, 1, 0, [])) k_L_law_266).trans rfl
theorem k_L_law_267 : zlk tb_L_law 267 = some (.goto 4, 3, 0, []) := kj_L_law_3 (by decide) rfl
theorem u_L_law_267 {d : Nat} {ls : zL} {st : List zV} {h : zH} : zX d tb_L_law 267 ls st h = zX d tb_L_law 271 ls st h := ux_goto k_L_law_267 (by decide)
theorem k_L_law_270 : zlk tb_L_law 270 = some (.iconst 0, 1, 0, []) := kj_L_law_3 (by decide) rfl
theorem u_L_law_270 {d : Nat} {ls : zL} {st : List zV} {h : zH} : zX d tb_L_law 270 ls st h = zX d tb_L_law 271 ls (.inl 0 :: st) h := (zX_unf (o := (.iconst 0, 1, 0, [])) k_L_law_270).trans rfl
theorem k_L_law_271 : zlk tb_L_law 271 = some (.invokevirtual 27, 3, 2, [(11, 104, 0, "", "")]) := kj_L_law_3 (by decide) rfl
theorem u_L_law_271 {d : Nat} {ls : zL} {h : zH} {a : Nat} {v0 : Int32} {v1 : Int32} {r0 : zV} : zX d tb_L_law 271 ls [.inl v1, .inl v0, .inr (.inr (some a)), r0] h = if 11 = (zk h a).1 then (zcall (zP zM) d 104 [.inr (.inr (some a)), .inl v0, .inl v1] h).bind (fun q => zX d tb_L_law 274 ls (q.1.toList ++ [r0]) q.2) else none := (ux_callV (t := [(11, 104, 0, "", "")]) (as := [.inl v0, .inl v1]) (r := [r0]) k_L_law_271 (n := 2) rfl rfl rfl (Nat.le_of_ble_eq_true rfl)).trans (zfb_1 _ _)
theorem k_L_law_274 : zlk tb_L_law 274 = some (.if_icmp .eq 756, 3, 0, []) := kj_L_law_3 (by decide) rfl
theorem u_L_law_274 {d : Nat} {ls : zL} {st : List zV} {h : zH} {x y : Int32} : zX d tb_L_law 274 ls (.inl y :: .inl x :: st) h = if x = y then zX d tb_L_law 1030 ls st h else zX d tb_L_law 277 ls st h := ux_ic_eq k_L_law_274 (by decide)
theorem k_L_law_277 : zlk tb_L_law 277 = some (.iconst 0, 1, 0, []) := kj_L_law_3 (by decide) rfl
theorem u_L_law_277 {d : Nat} {ls : zL} {st : List zV} {h : zH} : zX d tb_L_law 277 ls st h = zX d tb_L_law 278 ls (.inl 0 :: st) h := (zX_unf (o := (.iconst 0, 1, 0, [])) k_L_law_277).trans rfl
theorem k_L_law_278 : zlk tb_L_law 278 = some (.ireturn, 1, 1, []) := kj_L_law_3 (by decide) rfl
theorem u_L_law_278 {d : Nat} {ls : zL} {h : zH} {v : Int32} : zX d tb_L_law 278 ls [.inl v] h = if v = 0 ∨ v = 1 then some (some (.inl v), h) else none := ux_zret k_L_law_278
theorem k_L_law_279 : zlk tb_L_law 279 = some (.aload_n 1, 1, 0, []) := kj_L_law_3 (by decide) rfl
theorem u_L_law_279 {d : Nat} {st : List zV} {h : zH} {l0 l2 l3 : Option zV} {x : (Option Nat)} : zX d tb_L_law 279 [l0, some (.inr (.inr x)), l2, l3] st h = zX d tb_L_law 280 [l0, some (.inr (.inr x)), l2, l3] (.inr (.inr x) :: st) h := (zX_unf (o := (.aload_n 1, 1, 0, [])) k_L_law_279).trans rfl
theorem k_L_law_280 : zlk tb_L_law 280 = some (.aload_n 0, 1, 0, []) := kj_L_law_3 (by decide) rfl
theorem u_L_law_280 {d : Nat} {st : List zV} {h : zH} {l1 l2 l3 : Option zV} {x : (Option Nat)} : zX d tb_L_law 280 [some (.inr (.inr x)), l1, l2, l3] st h = zX d tb_L_law 281 [some (.inr (.inr x)), l1, l2, l3] (.inr (.inr x) :: st) h := (zX_unf (o := (.aload_n 0, 1, 0, [])) k_L_law_280).trans rfl
theorem k_L_law_281 : zlk tb_L_law 281 = some (.iload_n 3, 1, 0, []) := kj_L_law_3 (by decide) rfl
theorem u_L_law_281 {d : Nat} {st : List zV} {h : zH} {l0 l1 l2 : Option zV} {x : Int32} : zX d tb_L_law 281 [l0, l1, l2, some (.inl x)] st h = zX d tb_L_law 282 [l0, l1, l2, some (.inl x)] (.inl x :: st) h := (zX_unf (o := (.iload_n 3, 1, 0, [])) k_L_law_281).trans rfl
theorem k_L_law_282 : zlk tb_L_law 282 = some (.iconst 1, 1, 0, []) := kj_L_law_3 (by decide) rfl
theorem u_L_law_282 {d : Nat} {ls : zL} {st : List zV} {h : zH} : zX d tb_L_law 282 ls st h = zX d tb_L_law 283 ls (.inl 1 :: st) h := (zX_unf (o := (.iconst 1, 1, 0, [])) k_L_law_282).trans rfl
theorem k_L_law_283 : zlk tb_L_law 283 = some (.iadd, 1, 0, []) := kj_L_law_3 (by decide) rfl
theorem u_L_law_283 {d : Nat} {ls : zL} {st : List zV} {h : zH} {x y : Int32} : zX d tb_L_law 283 ls (.inl y :: .inl x :: st) h = zX d tb_L_law 284 ls (.inl (x + y) :: st) h := (zX_unf (o := (.iadd, 1, 0, [])) k_L_law_283).trans rfl
theorem k_L_law_284 : zlk tb_L_law 284 = some (.iaload, 1, 0, []) := kj_L_law_3 (by decide) rfl
theorem u_L_law_284 {d : Nat} {ls : zL} {st : List zV} {h : zH} {a : Nat} {i : Int32} : zX d tb_L_law 284 ls (.inl i :: .inr (.inr (some a)) :: st) h = if (zk h a).1 = 12 ∨ (zk h a).1 = 16 then (zix i (zk h a).2).bind fun j => zX d tb_L_law 285 ls (.inl (zi h a j) :: st) h else none := ux_ald k_L_law_284
theorem k_L_law_285 : zlk tb_L_law 285 = some (.aload_n 0, 1, 0, []) := kj_L_law_3 (by decide) rfl
theorem u_L_law_285 {d : Nat} {st : List zV} {h : zH} {l1 l2 l3 : Option zV} {x : (Option Nat)} : zX d tb_L_law 285 [some (.inr (.inr x)), l1, l2, l3] st h = zX d tb_L_law 286 [some (.inr (.inr x)), l1, l2, l3] (.inr (.inr x) :: st) h := (zX_unf (o := (.aload_n 0, 1, 0, [])) k_L_law_285).trans rfl
theorem k_L_law_286 : zlk tb_L_law 286 = some (.iload_n 3, 1, 0, []) := kj_L_law_3 (by decide) rfl
theorem u_L_law_286 {d : Nat} {st : List zV} {h : zH} {l0 l1 l2 : Option zV} {x : Int32} : zX d tb_L_law 286 [l0, l1, l2, some (.inl x)] st h = zX d tb_L_law 287 [l0, l1, l2, some (.inl x)] (.inl x :: st) h := (zX_unf (o := (.iload_n 3, 1, 0, [])) k_L_law_286).trans rfl
theorem k_L_law_287 : zlk tb_L_law 287 = some (.iconst 2, 1, 0, []) := kj_L_law_3 (by decide) rfl
theorem u_L_law_287 {d : Nat} {ls : zL} {st : List zV} {h : zH} : zX d tb_L_law 287 ls st h = zX d tb_L_law 288 ls (.inl 2 :: st) h := (zX_unf (o := (.iconst 2, 1, 0, [])) k_L_law_287).trans rfl
theorem k_L_law_288 : zlk tb_L_law 288 = some (.iadd, 1, 0, []) := kj_L_law_3 (by decide) rfl
theorem u_L_law_288 {d : Nat} {ls : zL} {st : List zV} {h : zH} {x y : Int32} : zX d tb_L_law 288 ls (.inl y :: .inl x :: st) h = zX d tb_L_law 289 ls (.inl (x + y) :: st) h := (zX_unf (o := (.iadd, 1, 0, [])) k_L_law_288).trans rfl
theorem k_L_law_289 : zlk tb_L_law 289 = some (.iaload, 1, 0, []) := kj_L_law_3 (by decide) rfl
theorem u_L_law_289 {d : Nat} {ls : zL} {st : List zV} {h : zH} {a : Nat} {i : Int32} : zX d tb_L_law 289 ls (.inl i :: .inr (.inr (some a)) :: st) h = if (zk h a).1 = 12 ∨ (zk h a).1 = 16 then (zix i (zk h a).2).bind fun j => zX d tb_L_law 290 ls (.inl (zi h a j) :: st) h else none := ux_ald k_L_law_289
theorem k_L_law_290 : zlk tb_L_law 290 = some (.ifCond .eq 7, 3, 0, []) := kj_L_law_3 (by decide) rfl
theorem u_L_law_290 {d : Nat} {ls : zL} {st : List zV} {h : zH} {x : Int32} : zX d tb_L_law 290 ls (.inl x :: st) h = if x = 0 then zX d tb_L_law 297 ls st h else zX d tb_L_law 293 ls st h := ux_if_eq k_L_law_290 (by decide)
theorem k_L_law_293 : zlk tb_L_law 293 = some (.iconst 1, 1, 0, []) := kj_L_law_3 (by decide) rfl
theorem u_L_law_293 {d : Nat} {ls : zL} {st : List zV} {h : zH} : zX d tb_L_law 293 ls st h = zX d tb_L_law 294 ls (.inl 1 :: st) h := (zX_unf (o := (.iconst 1, 1, 0, [])) k_L_law_293).trans rfl
theorem k_L_law_294 : zlk tb_L_law 294 = some (.goto 4, 3, 0, []) := kj_L_law_3 (by decide) rfl
theorem u_L_law_294 {d : Nat} {ls : zL} {st : List zV} {h : zH} : zX d tb_L_law 294 ls st h = zX d tb_L_law 298 ls st h := ux_goto k_L_law_294 (by decide)
theorem k_L_law_297 : zlk tb_L_law 297 = some (.iconst 0, 1, 0, []) := kj_L_law_3 (by decide) rfl
theorem u_L_law_297 {d : Nat} {ls : zL} {st : List zV} {h : zH} : zX d tb_L_law 297 ls st h = zX d tb_L_law 298 ls (.inl 0 :: st) h := (zX_unf (o := (.iconst 0, 1, 0, [])) k_L_law_297).trans rfl
theorem k_L_law_298 : zlk tb_L_law 298 = some (.invokevirtual 28, 3, 2, [(10, 56, 0, "", "")]) := kj_L_law_3 (by decide) rfl
theorem u_L_law_298 {d : Nat} {ls : zL} {h : zH} {a : Nat} {v0 : Int32} {v1 : Int32} : zX d tb_L_law 298 ls [.inl v1, .inl v0, .inr (.inr (some a))] h = if 10 = (zk h a).1 then (zcall (zP zM) d 56 [.inr (.inr (some a)), .inl v0, .inl v1] h).bind (fun q => zX d tb_L_law 301 ls (q.1.toList ++ []) q.2) else none := (ux_callV (t := [(10, 56, 0, "", "")]) (as := [.inl v0, .inl v1]) (r := []) k_L_law_298 (n := 2) rfl rfl rfl (Nat.le_of_ble_eq_true rfl)).trans (zfb_1 _ _)
theorem k_L_law_301 : zlk tb_L_law 301 = some (.aload_n 2, 1, 0, []) := kj_L_law_3 (by decide) rfl
theorem u_L_law_301 {d : Nat} {st : List zV} {h : zH} {l0 l1 l3 : Option zV} {x : (Option Nat)} : zX d tb_L_law 301 [l0, l1, some (.inr (.inr x)), l3] st h = zX d tb_L_law 302 [l0, l1, some (.inr (.inr x)), l3] (.inr (.inr x) :: st) h := (zX_unf (o := (.aload_n 2, 1, 0, [])) k_L_law_301).trans rfl
theorem k_L_law_302 : zlk tb_L_law 302 = some (.aload_n 0, 1, 0, []) := kj_L_law_3 (by decide) rfl
theorem u_L_law_302 {d : Nat} {st : List zV} {h : zH} {l1 l2 l3 : Option zV} {x : (Option Nat)} : zX d tb_L_law 302 [some (.inr (.inr x)), l1, l2, l3] st h = zX d tb_L_law 303 [some (.inr (.inr x)), l1, l2, l3] (.inr (.inr x) :: st) h := (zX_unf (o := (.aload_n 0, 1, 0, [])) k_L_law_302).trans rfl
theorem k_L_law_303 : zlk tb_L_law 303 = some (.iload_n 3, 1, 0, []) := kj_L_law_3 (by decide) rfl
theorem u_L_law_303 {d : Nat} {st : List zV} {h : zH} {l0 l1 l2 : Option zV} {x : Int32} : zX d tb_L_law 303 [l0, l1, l2, some (.inl x)] st h = zX d tb_L_law 304 [l0, l1, l2, some (.inl x)] (.inl x :: st) h := (zX_unf (o := (.iload_n 3, 1, 0, [])) k_L_law_303).trans rfl
theorem k_L_law_304 : zlk tb_L_law 304 = some (.iconst 1, 1, 0, []) := kj_L_law_3 (by decide) rfl
theorem u_L_law_304 {d : Nat} {ls : zL} {st : List zV} {h : zH} : zX d tb_L_law 304 ls st h = zX d tb_L_law 305 ls (.inl 1 :: st) h := (zX_unf (o := (.iconst 1, 1, 0, [])) k_L_law_304).trans rfl
theorem k_L_law_305 : zlk tb_L_law 305 = some (.iadd, 1, 0, []) := kj_L_law_3 (by decide) rfl
theorem u_L_law_305 {d : Nat} {ls : zL} {st : List zV} {h : zH} {x y : Int32} : zX d tb_L_law 305 ls (.inl y :: .inl x :: st) h = zX d tb_L_law 306 ls (.inl (x + y) :: st) h := (zX_unf (o := (.iadd, 1, 0, [])) k_L_law_305).trans rfl
theorem k_L_law_306 : zlk tb_L_law 306 = some (.iaload, 1, 0, []) := kj_L_law_3 (by decide) rfl
theorem u_L_law_306 {d : Nat} {ls : zL} {st : List zV} {h : zH} {a : Nat} {i : Int32} : zX d tb_L_law 306 ls (.inl i :: .inr (.inr (some a)) :: st) h = if (zk h a).1 = 12 ∨ (zk h a).1 = 16 then (zix i (zk h a).2).bind fun j => zX d tb_L_law 307 ls (.inl (zi h a j) :: st) h else none := ux_ald k_L_law_306
theorem k_L_law_307 : zlk tb_L_law 307 = some (.aload_n 0, 1, 0, []) := kj_L_law_3 (by decide) rfl
theorem u_L_law_307 {d : Nat} {st : List zV} {h : zH} {l1 l2 l3 : Option zV} {x : (Option Nat)} : zX d tb_L_law 307 [some (.inr (.inr x)), l1, l2, l3] st h = zX d tb_L_law 308 [some (.inr (.inr x)), l1, l2, l3] (.inr (.inr x) :: st) h := (zX_unf (o := (.aload_n 0, 1, 0, [])) k_L_law_307).trans rfl
theorem k_L_law_308 : zlk tb_L_law 308 = some (.iload_n 3, 1, 0, []) := kj_L_law_3 (by decide) rfl
theorem u_L_law_308 {d : Nat} {st : List zV} {h : zH} {l0 l1 l2 : Option zV} {x : Int32} : zX d tb_L_law 308 [l0, l1, l2, some (.inl x)] st h = zX d tb_L_law 309 [l0, l1, l2, some (.inl x)] (.inl x :: st) h := (zX_unf (o := (.iload_n 3, 1, 0, [])) k_L_law_308).trans rfl
theorem k_L_law_309 : zlk tb_L_law 309 = some (.iconst 2, 1, 0, []) := kj_L_law_3 (by decide) rfl
theorem u_L_law_309 {d : Nat} {ls : zL} {st : List zV} {h : zH} : zX d tb_L_law 309 ls st h = zX d tb_L_law 310 ls (.inl 2 :: st) h := (zX_unf (o := (.iconst 2, 1, 0, [])) k_L_law_309).trans rfl
theorem k_L_law_310 : zlk tb_L_law 310 = some (.iadd, 1, 0, []) := kj_L_law_3 (by decide) rfl
theorem u_L_law_310 {d : Nat} {ls : zL} {st : List zV} {h : zH} {x y : Int32} : zX d tb_L_law 310 ls (.inl y :: .inl x :: st) h = zX d tb_L_law 311 ls (.inl (x + y) :: st) h := (zX_unf (o := (.iadd, 1, 0, [])) k_L_law_310).trans rfl
theorem k_L_law_311 : zlk tb_L_law 311 = some (.iaload, 1, 0, []) := kj_L_law_3 (by decide) rfl
theorem u_L_law_311 {d : Nat} {ls : zL} {st : List zV} {h : zH} {a : Nat} {i : Int32} : zX d tb_L_law 311 ls (.inl i :: .inr (.inr (some a)) :: st) h = if (zk h a).1 = 12 ∨ (zk h a).1 = 16 then (zix i (zk h a).2).bind fun j => zX d tb_L_law 312 ls (.inl (zi h a j) :: st) h else none := ux_ald k_L_law_311
theorem k_L_law_312 : zlk tb_L_law 312 = some (.ifCond .eq 7, 3, 0, []) := kj_L_law_3 (by decide) rfl
theorem u_L_law_312 {d : Nat} {ls : zL} {st : List zV} {h : zH} {x : Int32} : zX d tb_L_law 312 ls (.inl x :: st) h = if x = 0 then zX d tb_L_law 319 ls st h else zX d tb_L_law 315 ls st h := ux_if_eq k_L_law_312 (by decide)
theorem k_L_law_315 : zlk tb_L_law 315 = some (.iconst 1, 1, 0, []) := kj_L_law_3 (by decide) rfl
theorem u_L_law_315 {d : Nat} {ls : zL} {st : List zV} {h : zH} : zX d tb_L_law 315 ls st h = zX d tb_L_law 316 ls (.inl 1 :: st) h := (zX_unf (o := (.iconst 1, 1, 0, [])) k_L_law_315).trans rfl
theorem k_L_law_316 : zlk tb_L_law 316 = some (.goto 4, 3, 0, []) := kj_L_law_4 (by decide) rfl
theorem u_L_law_316 {d : Nat} {ls : zL} {st : List zV} {h : zH} : zX d tb_L_law 316 ls st h = zX d tb_L_law 320 ls st h := ux_goto k_L_law_316 (by decide)
theorem k_L_law_319 : zlk tb_L_law 319 = some (.iconst 0, 1, 0, []) := kj_L_law_4 (by decide) rfl
theorem u_L_law_319 {d : Nat} {ls : zL} {st : List zV} {h : zH} : zX d tb_L_law 319 ls st h = zX d tb_L_law 320 ls (.inl 0 :: st) h := (zX_unf (o := (.iconst 0, 1, 0, [])) k_L_law_319).trans rfl
theorem k_L_law_320 : zlk tb_L_law 320 = some (.invokevirtual 31, 3, 2, [(11, 105, 0, "", "")]) := kj_L_law_4 (by decide) rfl
theorem u_L_law_320 {d : Nat} {ls : zL} {h : zH} {a : Nat} {v0 : Int32} {v1 : Int32} {r0 : zV} : zX d tb_L_law 320 ls [.inl v1, .inl v0, .inr (.inr (some a)), r0] h = if 11 = (zk h a).1 then (zcall (zP zM) d 105 [.inr (.inr (some a)), .inl v0, .inl v1] h).bind (fun q => zX d tb_L_law 323 ls (q.1.toList ++ [r0]) q.2) else none := (ux_callV (t := [(11, 105, 0, "", "")]) (as := [.inl v0, .inl v1]) (r := [r0]) k_L_law_320 (n := 2) rfl rfl rfl (Nat.le_of_ble_eq_true rfl)).trans (zfb_1 _ _)
theorem k_L_law_323 : zlk tb_L_law 323 = some (.if_icmp .eq 707, 3, 0, []) := kj_L_law_4 (by decide) rfl
theorem u_L_law_323 {d : Nat} {ls : zL} {st : List zV} {h : zH} {x y : Int32} : zX d tb_L_law 323 ls (.inl y :: .inl x :: st) h = if x = y then zX d tb_L_law 1030 ls st h else zX d tb_L_law 326 ls st h := ux_ic_eq k_L_law_323 (by decide)
theorem k_L_law_326 : zlk tb_L_law 326 = some (.iconst 0, 1, 0, []) := kj_L_law_4 (by decide) rfl
theorem u_L_law_326 {d : Nat} {ls : zL} {st : List zV} {h : zH} : zX d tb_L_law 326 ls st h = zX d tb_L_law 327 ls (.inl 0 :: st) h := (zX_unf (o := (.iconst 0, 1, 0, [])) k_L_law_326).trans rfl
theorem k_L_law_327 : zlk tb_L_law 327 = some (.ireturn, 1, 1, []) := kj_L_law_4 (by decide) rfl
theorem u_L_law_327 {d : Nat} {ls : zL} {h : zH} {v : Int32} : zX d tb_L_law 327 ls [.inl v] h = if v = 0 ∨ v = 1 then some (some (.inl v), h) else none := ux_zret k_L_law_327
theorem k_L_law_328 : zlk tb_L_law 328 = some (.aload_n 1, 1, 0, []) := kj_L_law_4 (by decide) rfl
theorem u_L_law_328 {d : Nat} {st : List zV} {h : zH} {l0 l2 l3 : Option zV} {x : (Option Nat)} : zX d tb_L_law 328 [l0, some (.inr (.inr x)), l2, l3] st h = zX d tb_L_law 329 [l0, some (.inr (.inr x)), l2, l3] (.inr (.inr x) :: st) h := (zX_unf (o := (.aload_n 1, 1, 0, [])) k_L_law_328).trans rfl
theorem k_L_law_329 : zlk tb_L_law 329 = some (.aload_n 0, 1, 0, []) := kj_L_law_4 (by decide) rfl
theorem u_L_law_329 {d : Nat} {st : List zV} {h : zH} {l1 l2 l3 : Option zV} {x : (Option Nat)} : zX d tb_L_law 329 [some (.inr (.inr x)), l1, l2, l3] st h = zX d tb_L_law 330 [some (.inr (.inr x)), l1, l2, l3] (.inr (.inr x) :: st) h := (zX_unf (o := (.aload_n 0, 1, 0, [])) k_L_law_329).trans rfl
theorem k_L_law_330 : zlk tb_L_law 330 = some (.iload_n 3, 1, 0, []) := kj_L_law_4 (by decide) rfl
theorem u_L_law_330 {d : Nat} {st : List zV} {h : zH} {l0 l1 l2 : Option zV} {x : Int32} : zX d tb_L_law 330 [l0, l1, l2, some (.inl x)] st h = zX d tb_L_law 331 [l0, l1, l2, some (.inl x)] (.inl x :: st) h := (zX_unf (o := (.iload_n 3, 1, 0, [])) k_L_law_330).trans rfl
theorem k_L_law_331 : zlk tb_L_law 331 = some (.iconst 1, 1, 0, []) := kj_L_law_4 (by decide) rfl
theorem u_L_law_331 {d : Nat} {ls : zL} {st : List zV} {h : zH} : zX d tb_L_law 331 ls st h = zX d tb_L_law 332 ls (.inl 1 :: st) h := (zX_unf (o := (.iconst 1, 1, 0, [])) k_L_law_331).trans rfl
theorem k_L_law_332 : zlk tb_L_law 332 = some (.iadd, 1, 0, []) := kj_L_law_4 (by decide) rfl
theorem u_L_law_332 {d : Nat} {ls : zL} {st : List zV} {h : zH} {x y : Int32} : zX d tb_L_law 332 ls (.inl y :: .inl x :: st) h = zX d tb_L_law 333 ls (.inl (x + y) :: st) h := (zX_unf (o := (.iadd, 1, 0, [])) k_L_law_332).trans rfl
theorem k_L_law_333 : zlk tb_L_law 333 = some (.iaload, 1, 0, []) := kj_L_law_4 (by decide) rfl
theorem u_L_law_333 {d : Nat} {ls : zL} {st : List zV} {h : zH} {a : Nat} {i : Int32} : zX d tb_L_law 333 ls (.inl i :: .inr (.inr (some a)) :: st) h = if (zk h a).1 = 12 ∨ (zk h a).1 = 16 then (zix i (zk h a).2).bind fun j => zX d tb_L_law 334 ls (.inl (zi h a j) :: st) h else none := ux_ald k_L_law_333
theorem k_L_law_334 : zlk tb_L_law 334 = some (.aload_n 0, 1, 0, []) := kj_L_law_4 (by decide) rfl
theorem u_L_law_334 {d : Nat} {st : List zV} {h : zH} {l1 l2 l3 : Option zV} {x : (Option Nat)} : zX d tb_L_law 334 [some (.inr (.inr x)), l1, l2, l3] st h = zX d tb_L_law 335 [some (.inr (.inr x)), l1, l2, l3] (.inr (.inr x) :: st) h := (zX_unf (o := (.aload_n 0, 1, 0, [])) k_L_law_334).trans rfl
theorem k_L_law_335 : zlk tb_L_law 335 = some (.iload_n 3, 1, 0, []) := kj_L_law_4 (by decide) rfl
theorem u_L_law_335 {d : Nat} {st : List zV} {h : zH} {l0 l1 l2 : Option zV} {x : Int32} : zX d tb_L_law 335 [l0, l1, l2, some (.inl x)] st h = zX d tb_L_law 336 [l0, l1, l2, some (.inl x)] (.inl x :: st) h := (zX_unf (o := (.iload_n 3, 1, 0, [])) k_L_law_335).trans rfl
theorem k_L_law_336 : zlk tb_L_law 336 = some (.iconst 2, 1, 0, []) := kj_L_law_4 (by decide) rfl
theorem u_L_law_336 {d : Nat} {ls : zL} {st : List zV} {h : zH} : zX d tb_L_law 336 ls st h = zX d tb_L_law 337 ls (.inl 2 :: st) h := (zX_unf (o := (.iconst 2, 1, 0, [])) k_L_law_336).trans rfl
theorem k_L_law_337 : zlk tb_L_law 337 = some (.iadd, 1, 0, []) := kj_L_law_4 (by decide) rfl
theorem u_L_law_337 {d : Nat} {ls : zL} {st : List zV} {h : zH} {x y : Int32} : zX d tb_L_law 337 ls (.inl y :: .inl x :: st) h = zX d tb_L_law 338 ls (.inl (x + y) :: st) h := (zX_unf (o := (.iadd, 1, 0, [])) k_L_law_337).trans rfl
theorem k_L_law_338 : zlk tb_L_law 338 = some (.iaload, 1, 0, []) := kj_L_law_4 (by decide) rfl
theorem u_L_law_338 {d : Nat} {ls : zL} {st : List zV} {h : zH} {a : Nat} {i : Int32} : zX d tb_L_law 338 ls (.inl i :: .inr (.inr (some a)) :: st) h = if (zk h a).1 = 12 ∨ (zk h a).1 = 16 then (zix i (zk h a).2).bind fun j => zX d tb_L_law 339 ls (.inl (zi h a j) :: st) h else none := ux_ald k_L_law_338
theorem k_L_law_339 : zlk tb_L_law 339 = some (.aload_n 0, 1, 0, []) := kj_L_law_4 (by decide) rfl
theorem u_L_law_339 {d : Nat} {st : List zV} {h : zH} {l1 l2 l3 : Option zV} {x : (Option Nat)} : zX d tb_L_law 339 [some (.inr (.inr x)), l1, l2, l3] st h = zX d tb_L_law 340 [some (.inr (.inr x)), l1, l2, l3] (.inr (.inr x) :: st) h := (zX_unf (o := (.aload_n 0, 1, 0, [])) k_L_law_339).trans rfl
theorem k_L_law_340 : zlk tb_L_law 340 = some (.iload_n 3, 1, 0, []) := kj_L_law_4 (by decide) rfl
theorem u_L_law_340 {d : Nat} {st : List zV} {h : zH} {l0 l1 l2 : Option zV} {x : Int32} : zX d tb_L_law 340 [l0, l1, l2, some (.inl x)] st h = zX d tb_L_law 341 [l0, l1, l2, some (.inl x)] (.inl x :: st) h := (zX_unf (o := (.iload_n 3, 1, 0, [])) k_L_law_340).trans rfl
theorem k_L_law_341 : zlk tb_L_law 341 = some (.iconst 3, 1, 0, []) := kj_L_law_4 (by decide) rfl
theorem u_L_law_341 {d : Nat} {ls : zL} {st : List zV} {h : zH} : zX d tb_L_law 341 ls st h = zX d tb_L_law 342 ls (.inl 3 :: st) h := (zX_unf (o := (.iconst 3, 1, 0, [])) k_L_law_341).trans rfl
theorem k_L_law_342 : zlk tb_L_law 342 = some (.iadd, 1, 0, []) := kj_L_law_4 (by decide) rfl
theorem u_L_law_342 {d : Nat} {ls : zL} {st : List zV} {h : zH} {x y : Int32} : zX d tb_L_law 342 ls (.inl y :: .inl x :: st) h = zX d tb_L_law 343 ls (.inl (x + y) :: st) h := (zX_unf (o := (.iadd, 1, 0, [])) k_L_law_342).trans rfl
theorem k_L_law_343 : zlk tb_L_law 343 = some (.iaload, 1, 0, []) := kj_L_law_4 (by decide) rfl
theorem u_L_law_343 {d : Nat} {ls : zL} {st : List zV} {h : zH} {a : Nat} {i : Int32} : zX d tb_L_law 343 ls (.inl i :: .inr (.inr (some a)) :: st) h = if (zk h a).1 = 12 ∨ (zk h a).1 = 16 then (zix i (zk h a).2).bind fun j => zX d tb_L_law 344 ls (.inl (zi h a j) :: st) h else none := ux_ald k_L_law_343
theorem k_L_law_344 : zlk tb_L_law 344 = some (.aload_n 0, 1, 0, []) := kj_L_law_4 (by decide) rfl
theorem u_L_law_344 {d : Nat} {st : List zV} {h : zH} {l1 l2 l3 : Option zV} {x : (Option Nat)} : zX d tb_L_law 344 [some (.inr (.inr x)), l1, l2, l3] st h = zX d tb_L_law 345 [some (.inr (.inr x)), l1, l2, l3] (.inr (.inr x) :: st) h := (zX_unf (o := (.aload_n 0, 1, 0, [])) k_L_law_344).trans rfl
theorem k_L_law_345 : zlk tb_L_law 345 = some (.iload_n 3, 1, 0, []) := kj_L_law_4 (by decide) rfl
theorem u_L_law_345 {d : Nat} {st : List zV} {h : zH} {l0 l1 l2 : Option zV} {x : Int32} : zX d tb_L_law 345 [l0, l1, l2, some (.inl x)] st h = zX d tb_L_law 346 [l0, l1, l2, some (.inl x)] (.inl x :: st) h := (zX_unf (o := (.iload_n 3, 1, 0, [])) k_L_law_345).trans rfl
theorem k_L_law_346 : zlk tb_L_law 346 = some (.iconst 4, 1, 0, []) := kj_L_law_4 (by decide) rfl
theorem u_L_law_346 {d : Nat} {ls : zL} {st : List zV} {h : zH} : zX d tb_L_law 346 ls st h = zX d tb_L_law 347 ls (.inl 4 :: st) h := (zX_unf (o := (.iconst 4, 1, 0, [])) k_L_law_346).trans rfl
theorem k_L_law_347 : zlk tb_L_law 347 = some (.iadd, 1, 0, []) := kj_L_law_4 (by decide) rfl
theorem u_L_law_347 {d : Nat} {ls : zL} {st : List zV} {h : zH} {x y : Int32} : zX d tb_L_law 347 ls (.inl y :: .inl x :: st) h = zX d tb_L_law 348 ls (.inl (x + y) :: st) h := (zX_unf (o := (.iadd, 1, 0, [])) k_L_law_347).trans rfl
theorem k_L_law_348 : zlk tb_L_law 348 = some (.iaload, 1, 0, []) := kj_L_law_4 (by decide) rfl
theorem u_L_law_348 {d : Nat} {ls : zL} {st : List zV} {h : zH} {a : Nat} {i : Int32} : zX d tb_L_law 348 ls (.inl i :: .inr (.inr (some a)) :: st) h = if (zk h a).1 = 12 ∨ (zk h a).1 = 16 then (zix i (zk h a).2).bind fun j => zX d tb_L_law 349 ls (.inl (zi h a j) :: st) h else none := ux_ald k_L_law_348
theorem k_L_law_349 : zlk tb_L_law 349 = some (.aload_n 0, 1, 0, []) := kj_L_law_4 (by decide) rfl
theorem u_L_law_349 {d : Nat} {st : List zV} {h : zH} {l1 l2 l3 : Option zV} {x : (Option Nat)} : zX d tb_L_law 349 [some (.inr (.inr x)), l1, l2, l3] st h = zX d tb_L_law 350 [some (.inr (.inr x)), l1, l2, l3] (.inr (.inr x) :: st) h := (zX_unf (o := (.aload_n 0, 1, 0, [])) k_L_law_349).trans rfl
theorem k_L_law_350 : zlk tb_L_law 350 = some (.iload_n 3, 1, 0, []) := kj_L_law_4 (by decide) rfl
theorem u_L_law_350 {d : Nat} {st : List zV} {h : zH} {l0 l1 l2 : Option zV} {x : Int32} : zX d tb_L_law 350 [l0, l1, l2, some (.inl x)] st h = zX d tb_L_law 351 [l0, l1, l2, some (.inl x)] (.inl x :: st) h := (zX_unf (o := (.iload_n 3, 1, 0, [])) k_L_law_350).trans rfl
theorem k_L_law_351 : zlk tb_L_law 351 = some (.iconst 5, 1, 0, []) := kj_L_law_4 (by decide) rfl
theorem u_L_law_351 {d : Nat} {ls : zL} {st : List zV} {h : zH} : zX d tb_L_law 351 ls st h = zX d tb_L_law 352 ls (.inl 5 :: st) h := (zX_unf (o := (.iconst 5, 1, 0, [])) k_L_law_351).trans rfl
theorem k_L_law_352 : zlk tb_L_law 352 = some (.iadd, 1, 0, []) := kj_L_law_4 (by decide) rfl
theorem u_L_law_352 {d : Nat} {ls : zL} {st : List zV} {h : zH} {x y : Int32} : zX d tb_L_law 352 ls (.inl y :: .inl x :: st) h = zX d tb_L_law 353 ls (.inl (x + y) :: st) h := (zX_unf (o := (.iadd, 1, 0, [])) k_L_law_352).trans rfl
theorem k_L_law_353 : zlk tb_L_law 353 = some (.iaload, 1, 0, []) := kj_L_law_4 (by decide) rfl
theorem u_L_law_353 {d : Nat} {ls : zL} {st : List zV} {h : zH} {a : Nat} {i : Int32} : zX d tb_L_law 353 ls (.inl i :: .inr (.inr (some a)) :: st) h = if (zk h a).1 = 12 ∨ (zk h a).1 = 16 then (zix i (zk h a).2).bind fun j => zX d tb_L_law 354 ls (.inl (zi h a j) :: st) h else none := ux_ald k_L_law_353
theorem k_L_law_354 : zlk tb_L_law 354 = some (.invokevirtual 32, 3, 5, [(10, 57, 0, "", "")]) := kj_L_law_4 (by decide) rfl
theorem u_L_law_354 {d : Nat} {ls : zL} {h : zH} {a : Nat} {v0 : Int32} {v1 : Int32} {v2 : Int32} {v3 : Int32} {v4 : Int32} : zX d tb_L_law 354 ls [.inl v4, .inl v3, .inl v2, .inl v1, .inl v0, .inr (.inr (some a))] h = if 10 = (zk h a).1 then (zcall (zP zM) d 57 [.inr (.inr (some a)), .inl v0, .inl v1, .inl v2, .inl v3, .inl v4] h).bind (fun q => zX d tb_L_law 357 ls (q.1.toList ++ []) q.2) else none := (ux_callV (t := [(10, 57, 0, "", "")]) (as := [.inl v0, .inl v1, .inl v2, .inl v3, .inl v4]) (r := []) k_L_law_354 (n := 5) rfl rfl rfl (Nat.le_of_ble_eq_true rfl)).trans (zfb_1 _ _)
theorem k_L_law_357 : zlk tb_L_law 357 = some (.aload_n 2, 1, 0, []) := kj_L_law_4 (by decide) rfl
theorem u_L_law_357 {d : Nat} {st : List zV} {h : zH} {l0 l1 l3 : Option zV} {x : (Option Nat)} : zX d tb_L_law 357 [l0, l1, some (.inr (.inr x)), l3] st h = zX d tb_L_law 358 [l0, l1, some (.inr (.inr x)), l3] (.inr (.inr x) :: st) h := (zX_unf (o := (.aload_n 2, 1, 0, [])) k_L_law_357).trans rfl
theorem k_L_law_358 : zlk tb_L_law 358 = some (.aload_n 0, 1, 0, []) := kj_L_law_4 (by decide) rfl
theorem u_L_law_358 {d : Nat} {st : List zV} {h : zH} {l1 l2 l3 : Option zV} {x : (Option Nat)} : zX d tb_L_law 358 [some (.inr (.inr x)), l1, l2, l3] st h = zX d tb_L_law 359 [some (.inr (.inr x)), l1, l2, l3] (.inr (.inr x) :: st) h := (zX_unf (o := (.aload_n 0, 1, 0, [])) k_L_law_358).trans rfl
theorem k_L_law_359 : zlk tb_L_law 359 = some (.iload_n 3, 1, 0, []) := kj_L_law_4 (by decide) rfl
theorem u_L_law_359 {d : Nat} {st : List zV} {h : zH} {l0 l1 l2 : Option zV} {x : Int32} : zX d tb_L_law 359 [l0, l1, l2, some (.inl x)] st h = zX d tb_L_law 360 [l0, l1, l2, some (.inl x)] (.inl x :: st) h := (zX_unf (o := (.iload_n 3, 1, 0, [])) k_L_law_359).trans rfl
theorem k_L_law_360 : zlk tb_L_law 360 = some (.iconst 1, 1, 0, []) := kj_L_law_4 (by decide) rfl
theorem u_L_law_360 {d : Nat} {ls : zL} {st : List zV} {h : zH} : zX d tb_L_law 360 ls st h = zX d tb_L_law 361 ls (.inl 1 :: st) h := (zX_unf (o := (.iconst 1, 1, 0, [])) k_L_law_360).trans rfl
theorem k_L_law_361 : zlk tb_L_law 361 = some (.iadd, 1, 0, []) := kj_L_law_4 (by decide) rfl
theorem u_L_law_361 {d : Nat} {ls : zL} {st : List zV} {h : zH} {x y : Int32} : zX d tb_L_law 361 ls (.inl y :: .inl x :: st) h = zX d tb_L_law 362 ls (.inl (x + y) :: st) h := (zX_unf (o := (.iadd, 1, 0, [])) k_L_law_361).trans rfl
theorem k_L_law_362 : zlk tb_L_law 362 = some (.iaload, 1, 0, []) := kj_L_law_4 (by decide) rfl
theorem u_L_law_362 {d : Nat} {ls : zL} {st : List zV} {h : zH} {a : Nat} {i : Int32} : zX d tb_L_law 362 ls (.inl i :: .inr (.inr (some a)) :: st) h = if (zk h a).1 = 12 ∨ (zk h a).1 = 16 then (zix i (zk h a).2).bind fun j => zX d tb_L_law 363 ls (.inl (zi h a j) :: st) h else none := ux_ald k_L_law_362
theorem k_L_law_363 : zlk tb_L_law 363 = some (.aload_n 0, 1, 0, []) := kj_L_law_4 (by decide) rfl
theorem u_L_law_363 {d : Nat} {st : List zV} {h : zH} {l1 l2 l3 : Option zV} {x : (Option Nat)} : zX d tb_L_law 363 [some (.inr (.inr x)), l1, l2, l3] st h = zX d tb_L_law 364 [some (.inr (.inr x)), l1, l2, l3] (.inr (.inr x) :: st) h := (zX_unf (o := (.aload_n 0, 1, 0, [])) k_L_law_363).trans rfl
theorem k_L_law_364 : zlk tb_L_law 364 = some (.iload_n 3, 1, 0, []) := kj_L_law_5 (by decide) rfl
theorem u_L_law_364 {d : Nat} {st : List zV} {h : zH} {l0 l1 l2 : Option zV} {x : Int32} : zX d tb_L_law 364 [l0, l1, l2, some (.inl x)] st h = zX d tb_L_law 365 [l0, l1, l2, some (.inl x)] (.inl x :: st) h := (zX_unf (o := (.iload_n 3, 1, 0, [])) k_L_law_364).trans rfl
theorem k_L_law_365 : zlk tb_L_law 365 = some (.iconst 2, 1, 0, []) := kj_L_law_5 (by decide) rfl
theorem u_L_law_365 {d : Nat} {ls : zL} {st : List zV} {h : zH} : zX d tb_L_law 365 ls st h = zX d tb_L_law 366 ls (.inl 2 :: st) h := (zX_unf (o := (.iconst 2, 1, 0, [])) k_L_law_365).trans rfl
theorem k_L_law_366 : zlk tb_L_law 366 = some (.iadd, 1, 0, []) := kj_L_law_5 (by decide) rfl
theorem u_L_law_366 {d : Nat} {ls : zL} {st : List zV} {h : zH} {x y : Int32} : zX d tb_L_law 366 ls (.inl y :: .inl x :: st) h = zX d tb_L_law 367 ls (.inl (x + y) :: st) h := (zX_unf (o := (.iadd, 1, 0, [])) k_L_law_366).trans rfl
theorem k_L_law_367 : zlk tb_L_law 367 = some (.iaload, 1, 0, []) := kj_L_law_5 (by decide) rfl
theorem u_L_law_367 {d : Nat} {ls : zL} {st : List zV} {h : zH} {a : Nat} {i : Int32} : zX d tb_L_law 367 ls (.inl i :: .inr (.inr (some a)) :: st) h = if (zk h a).1 = 12 ∨ (zk h a).1 = 16 then (zix i (zk h a).2).bind fun j => zX d tb_L_law 368 ls (.inl (zi h a j) :: st) h else none := ux_ald k_L_law_367
theorem k_L_law_368 : zlk tb_L_law 368 = some (.aload_n 0, 1, 0, []) := kj_L_law_5 (by decide) rfl
theorem u_L_law_368 {d : Nat} {st : List zV} {h : zH} {l1 l2 l3 : Option zV} {x : (Option Nat)} : zX d tb_L_law 368 [some (.inr (.inr x)), l1, l2, l3] st h = zX d tb_L_law 369 [some (.inr (.inr x)), l1, l2, l3] (.inr (.inr x) :: st) h := (zX_unf (o := (.aload_n 0, 1, 0, [])) k_L_law_368).trans rfl
theorem k_L_law_369 : zlk tb_L_law 369 = some (.iload_n 3, 1, 0, []) := kj_L_law_5 (by decide) rfl
theorem u_L_law_369 {d : Nat} {st : List zV} {h : zH} {l0 l1 l2 : Option zV} {x : Int32} : zX d tb_L_law 369 [l0, l1, l2, some (.inl x)] st h = zX d tb_L_law 370 [l0, l1, l2, some (.inl x)] (.inl x :: st) h := (zX_unf (o := (.iload_n 3, 1, 0, [])) k_L_law_369).trans rfl
theorem k_L_law_370 : zlk tb_L_law 370 = some (.iconst 3, 1, 0, []) := kj_L_law_5 (by decide) rfl
theorem u_L_law_370 {d : Nat} {ls : zL} {st : List zV} {h : zH} : zX d tb_L_law 370 ls st h = zX d tb_L_law 371 ls (.inl 3 :: st) h := (zX_unf (o := (.iconst 3, 1, 0, [])) k_L_law_370).trans rfl
theorem k_L_law_371 : zlk tb_L_law 371 = some (.iadd, 1, 0, []) := kj_L_law_5 (by decide) rfl
theorem u_L_law_371 {d : Nat} {ls : zL} {st : List zV} {h : zH} {x y : Int32} : zX d tb_L_law 371 ls (.inl y :: .inl x :: st) h = zX d tb_L_law 372 ls (.inl (x + y) :: st) h := (zX_unf (o := (.iadd, 1, 0, [])) k_L_law_371).trans rfl
theorem k_L_law_372 : zlk tb_L_law 372 = some (.iaload, 1, 0, []) := kj_L_law_5 (by decide) rfl
theorem u_L_law_372 {d : Nat} {ls : zL} {st : List zV} {h : zH} {a : Nat} {i : Int32} : zX d tb_L_law 372 ls (.inl i :: .inr (.inr (some a)) :: st) h = if (zk h a).1 = 12 ∨ (zk h a).1 = 16 then (zix i (zk h a).2).bind fun j => zX d tb_L_law 373 ls (.inl (zi h a j) :: st) h else none := ux_ald k_L_law_372
theorem k_L_law_373 : zlk tb_L_law 373 = some (.aload_n 0, 1, 0, []) := kj_L_law_5 (by decide) rfl
theorem u_L_law_373 {d : Nat} {st : List zV} {h : zH} {l1 l2 l3 : Option zV} {x : (Option Nat)} : zX d tb_L_law 373 [some (.inr (.inr x)), l1, l2, l3] st h = zX d tb_L_law 374 [some (.inr (.inr x)), l1, l2, l3] (.inr (.inr x) :: st) h := (zX_unf (o := (.aload_n 0, 1, 0, [])) k_L_law_373).trans rfl
theorem k_L_law_374 : zlk tb_L_law 374 = some (.iload_n 3, 1, 0, []) := kj_L_law_5 (by decide) rfl
theorem u_L_law_374 {d : Nat} {st : List zV} {h : zH} {l0 l1 l2 : Option zV} {x : Int32} : zX d tb_L_law 374 [l0, l1, l2, some (.inl x)] st h = zX d tb_L_law 375 [l0, l1, l2, some (.inl x)] (.inl x :: st) h := (zX_unf (o := (.iload_n 3, 1, 0, [])) k_L_law_374).trans rfl
theorem k_L_law_375 : zlk tb_L_law 375 = some (.iconst 4, 1, 0, []) := kj_L_law_5 (by decide) rfl
theorem u_L_law_375 {d : Nat} {ls : zL} {st : List zV} {h : zH} : zX d tb_L_law 375 ls st h = zX d tb_L_law 376 ls (.inl 4 :: st) h := (zX_unf (o := (.iconst 4, 1, 0, [])) k_L_law_375).trans rfl
theorem k_L_law_376 : zlk tb_L_law 376 = some (.iadd, 1, 0, []) := kj_L_law_5 (by decide) rfl
theorem u_L_law_376 {d : Nat} {ls : zL} {st : List zV} {h : zH} {x y : Int32} : zX d tb_L_law 376 ls (.inl y :: .inl x :: st) h = zX d tb_L_law 377 ls (.inl (x + y) :: st) h := (zX_unf (o := (.iadd, 1, 0, [])) k_L_law_376).trans rfl
theorem k_L_law_377 : zlk tb_L_law 377 = some (.iaload, 1, 0, []) := kj_L_law_5 (by decide) rfl
theorem u_L_law_377 {d : Nat} {ls : zL} {st : List zV} {h : zH} {a : Nat} {i : Int32} : zX d tb_L_law 377 ls (.inl i :: .inr (.inr (some a)) :: st) h = if (zk h a).1 = 12 ∨ (zk h a).1 = 16 then (zix i (zk h a).2).bind fun j => zX d tb_L_law 378 ls (.inl (zi h a j) :: st) h else none := ux_ald k_L_law_377
theorem k_L_law_378 : zlk tb_L_law 378 = some (.aload_n 0, 1, 0, []) := kj_L_law_5 (by decide) rfl
theorem u_L_law_378 {d : Nat} {st : List zV} {h : zH} {l1 l2 l3 : Option zV} {x : (Option Nat)} : zX d tb_L_law 378 [some (.inr (.inr x)), l1, l2, l3] st h = zX d tb_L_law 379 [some (.inr (.inr x)), l1, l2, l3] (.inr (.inr x) :: st) h := (zX_unf (o := (.aload_n 0, 1, 0, [])) k_L_law_378).trans rfl
theorem k_L_law_379 : zlk tb_L_law 379 = some (.iload_n 3, 1, 0, []) := kj_L_law_5 (by decide) rfl
theorem u_L_law_379 {d : Nat} {st : List zV} {h : zH} {l0 l1 l2 : Option zV} {x : Int32} : zX d tb_L_law 379 [l0, l1, l2, some (.inl x)] st h = zX d tb_L_law 380 [l0, l1, l2, some (.inl x)] (.inl x :: st) h := (zX_unf (o := (.iload_n 3, 1, 0, [])) k_L_law_379).trans rfl
theorem k_L_law_380 : zlk tb_L_law 380 = some (.iconst 5, 1, 0, []) := kj_L_law_5 (by decide) rfl
theorem u_L_law_380 {d : Nat} {ls : zL} {st : List zV} {h : zH} : zX d tb_L_law 380 ls st h = zX d tb_L_law 381 ls (.inl 5 :: st) h := (zX_unf (o := (.iconst 5, 1, 0, [])) k_L_law_380).trans rfl
theorem k_L_law_381 : zlk tb_L_law 381 = some (.iadd, 1, 0, []) := kj_L_law_5 (by decide) rfl
theorem u_L_law_381 {d : Nat} {ls : zL} {st : List zV} {h : zH} {x y : Int32} : zX d tb_L_law 381 ls (.inl y :: .inl x :: st) h = zX d tb_L_law 382 ls (.inl (x + y) :: st) h := (zX_unf (o := (.iadd, 1, 0, [])) k_L_law_381).trans rfl
theorem k_L_law_382 : zlk tb_L_law 382 = some (.iaload, 1, 0, []) := kj_L_law_5 (by decide) rfl
theorem u_L_law_382 {d : Nat} {ls : zL} {st : List zV} {h : zH} {a : Nat} {i : Int32} : zX d tb_L_law 382 ls (.inl i :: .inr (.inr (some a)) :: st) h = if (zk h a).1 = 12 ∨ (zk h a).1 = 16 then (zix i (zk h a).2).bind fun j => zX d tb_L_law 383 ls (.inl (zi h a j) :: st) h else none := ux_ald k_L_law_382
theorem k_L_law_383 : zlk tb_L_law 383 = some (.invokevirtual 36, 3, 5, [(11, 112, 0, "", "")]) := kj_L_law_5 (by decide) rfl
theorem u_L_law_383 {d : Nat} {ls : zL} {h : zH} {a : Nat} {v0 : Int32} {v1 : Int32} {v2 : Int32} {v3 : Int32} {v4 : Int32} {r0 : zV} : zX d tb_L_law 383 ls [.inl v4, .inl v3, .inl v2, .inl v1, .inl v0, .inr (.inr (some a)), r0] h = if 11 = (zk h a).1 then (zcall (zP zM) d 112 [.inr (.inr (some a)), .inl v0, .inl v1, .inl v2, .inl v3, .inl v4] h).bind (fun q => zX d tb_L_law 386 ls (q.1.toList ++ [r0]) q.2) else none := (ux_callV (t := [(11, 112, 0, "", "")]) (as := [.inl v0, .inl v1, .inl v2, .inl v3, .inl v4]) (r := [r0]) k_L_law_383 (n := 5) rfl rfl rfl (Nat.le_of_ble_eq_true rfl)).trans (zfb_1 _ _)
theorem k_L_law_386 : zlk tb_L_law 386 = some (.if_icmp .eq 644, 3, 0, []) := kj_L_law_5 (by decide) rfl
theorem u_L_law_386 {d : Nat} {ls : zL} {st : List zV} {h : zH} {x y : Int32} : zX d tb_L_law 386 ls (.inl y :: .inl x :: st) h = if x = y then zX d tb_L_law 1030 ls st h else zX d tb_L_law 389 ls st h := ux_ic_eq k_L_law_386 (by decide)
theorem k_L_law_389 : zlk tb_L_law 389 = some (.iconst 0, 1, 0, []) := kj_L_law_5 (by decide) rfl
theorem u_L_law_389 {d : Nat} {ls : zL} {st : List zV} {h : zH} : zX d tb_L_law 389 ls st h = zX d tb_L_law 390 ls (.inl 0 :: st) h := (zX_unf (o := (.iconst 0, 1, 0, [])) k_L_law_389).trans rfl
theorem k_L_law_390 : zlk tb_L_law 390 = some (.ireturn, 1, 1, []) := kj_L_law_5 (by decide) rfl
theorem u_L_law_390 {d : Nat} {ls : zL} {h : zH} {v : Int32} : zX d tb_L_law 390 ls [.inl v] h = if v = 0 ∨ v = 1 then some (some (.inl v), h) else none := ux_zret k_L_law_390
theorem k_L_law_391 : zlk tb_L_law 391 = some (.aload_n 1, 1, 0, []) := kj_L_law_5 (by decide) rfl
theorem u_L_law_391 {d : Nat} {st : List zV} {h : zH} {l0 l2 l3 : Option zV} {x : (Option Nat)} : zX d tb_L_law 391 [l0, some (.inr (.inr x)), l2, l3] st h = zX d tb_L_law 392 [l0, some (.inr (.inr x)), l2, l3] (.inr (.inr x) :: st) h := (zX_unf (o := (.aload_n 1, 1, 0, [])) k_L_law_391).trans rfl
theorem k_L_law_392 : zlk tb_L_law 392 = some (.aload_n 0, 1, 0, []) := kj_L_law_5 (by decide) rfl
theorem u_L_law_392 {d : Nat} {st : List zV} {h : zH} {l1 l2 l3 : Option zV} {x : (Option Nat)} : zX d tb_L_law 392 [some (.inr (.inr x)), l1, l2, l3] st h = zX d tb_L_law 393 [some (.inr (.inr x)), l1, l2, l3] (.inr (.inr x) :: st) h := (zX_unf (o := (.aload_n 0, 1, 0, [])) k_L_law_392).trans rfl
theorem k_L_law_393 : zlk tb_L_law 393 = some (.iload_n 3, 1, 0, []) := kj_L_law_5 (by decide) rfl
theorem u_L_law_393 {d : Nat} {st : List zV} {h : zH} {l0 l1 l2 : Option zV} {x : Int32} : zX d tb_L_law 393 [l0, l1, l2, some (.inl x)] st h = zX d tb_L_law 394 [l0, l1, l2, some (.inl x)] (.inl x :: st) h := (zX_unf (o := (.iload_n 3, 1, 0, [])) k_L_law_393).trans rfl
theorem k_L_law_394 : zlk tb_L_law 394 = some (.iconst 1, 1, 0, []) := kj_L_law_5 (by decide) rfl
theorem u_L_law_394 {d : Nat} {ls : zL} {st : List zV} {h : zH} : zX d tb_L_law 394 ls st h = zX d tb_L_law 395 ls (.inl 1 :: st) h := (zX_unf (o := (.iconst 1, 1, 0, [])) k_L_law_394).trans rfl
theorem k_L_law_395 : zlk tb_L_law 395 = some (.iadd, 1, 0, []) := kj_L_law_5 (by decide) rfl
theorem u_L_law_395 {d : Nat} {ls : zL} {st : List zV} {h : zH} {x y : Int32} : zX d tb_L_law 395 ls (.inl y :: .inl x :: st) h = zX d tb_L_law 396 ls (.inl (x + y) :: st) h := (zX_unf (o := (.iadd, 1, 0, [])) k_L_law_395).trans rfl
theorem k_L_law_396 : zlk tb_L_law 396 = some (.iaload, 1, 0, []) := kj_L_law_5 (by decide) rfl
theorem u_L_law_396 {d : Nat} {ls : zL} {st : List zV} {h : zH} {a : Nat} {i : Int32} : zX d tb_L_law 396 ls (.inl i :: .inr (.inr (some a)) :: st) h = if (zk h a).1 = 12 ∨ (zk h a).1 = 16 then (zix i (zk h a).2).bind fun j => zX d tb_L_law 397 ls (.inl (zi h a j) :: st) h else none := ux_ald k_L_law_396
theorem k_L_law_397 : zlk tb_L_law 397 = some (.aload_n 0, 1, 0, []) := kj_L_law_5 (by decide) rfl
theorem u_L_law_397 {d : Nat} {st : List zV} {h : zH} {l1 l2 l3 : Option zV} {x : (Option Nat)} : zX d tb_L_law 397 [some (.inr (.inr x)), l1, l2, l3] st h = zX d tb_L_law 398 [some (.inr (.inr x)), l1, l2, l3] (.inr (.inr x) :: st) h := (zX_unf (o := (.aload_n 0, 1, 0, [])) k_L_law_397).trans rfl
theorem k_L_law_398 : zlk tb_L_law 398 = some (.iload_n 3, 1, 0, []) := kj_L_law_5 (by decide) rfl
theorem u_L_law_398 {d : Nat} {st : List zV} {h : zH} {l0 l1 l2 : Option zV} {x : Int32} : zX d tb_L_law 398 [l0, l1, l2, some (.inl x)] st h = zX d tb_L_law 399 [l0, l1, l2, some (.inl x)] (.inl x :: st) h := (zX_unf (o := (.iload_n 3, 1, 0, [])) k_L_law_398).trans rfl
theorem k_L_law_399 : zlk tb_L_law 399 = some (.iconst 2, 1, 0, []) := kj_L_law_5 (by decide) rfl
theorem u_L_law_399 {d : Nat} {ls : zL} {st : List zV} {h : zH} : zX d tb_L_law 399 ls st h = zX d tb_L_law 400 ls (.inl 2 :: st) h := (zX_unf (o := (.iconst 2, 1, 0, [])) k_L_law_399).trans rfl
theorem k_L_law_400 : zlk tb_L_law 400 = some (.iadd, 1, 0, []) := kj_L_law_5 (by decide) rfl
theorem u_L_law_400 {d : Nat} {ls : zL} {st : List zV} {h : zH} {x y : Int32} : zX d tb_L_law 400 ls (.inl y :: .inl x :: st) h = zX d tb_L_law 401 ls (.inl (x + y) :: st) h := (zX_unf (o := (.iadd, 1, 0, [])) k_L_law_400).trans rfl
theorem k_L_law_401 : zlk tb_L_law 401 = some (.iaload, 1, 0, []) := kj_L_law_5 (by decide) rfl
theorem u_L_law_401 {d : Nat} {ls : zL} {st : List zV} {h : zH} {a : Nat} {i : Int32} : zX d tb_L_law 401 ls (.inl i :: .inr (.inr (some a)) :: st) h = if (zk h a).1 = 12 ∨ (zk h a).1 = 16 then (zix i (zk h a).2).bind fun j => zX d tb_L_law 402 ls (.inl (zi h a j) :: st) h else none := ux_ald k_L_law_401
theorem k_L_law_402 : zlk tb_L_law 402 = some (.aload_n 0, 1, 0, []) := kj_L_law_5 (by decide) rfl
theorem u_L_law_402 {d : Nat} {st : List zV} {h : zH} {l1 l2 l3 : Option zV} {x : (Option Nat)} : zX d tb_L_law 402 [some (.inr (.inr x)), l1, l2, l3] st h = zX d tb_L_law 403 [some (.inr (.inr x)), l1, l2, l3] (.inr (.inr x) :: st) h := (zX_unf (o := (.aload_n 0, 1, 0, [])) k_L_law_402).trans rfl
theorem k_L_law_403 : zlk tb_L_law 403 = some (.iload_n 3, 1, 0, []) := kj_L_law_5 (by decide) rfl
theorem u_L_law_403 {d : Nat} {st : List zV} {h : zH} {l0 l1 l2 : Option zV} {x : Int32} : zX d tb_L_law 403 [l0, l1, l2, some (.inl x)] st h = zX d tb_L_law 404 [l0, l1, l2, some (.inl x)] (.inl x :: st) h := (zX_unf (o := (.iload_n 3, 1, 0, [])) k_L_law_403).trans rfl
theorem k_L_law_404 : zlk tb_L_law 404 = some (.iconst 3, 1, 0, []) := kj_L_law_5 (by decide) rfl
theorem u_L_law_404 {d : Nat} {ls : zL} {st : List zV} {h : zH} : zX d tb_L_law 404 ls st h = zX d tb_L_law 405 ls (.inl 3 :: st) h := (zX_unf (o := (.iconst 3, 1, 0, [])) k_L_law_404).trans rfl
theorem k_L_law_405 : zlk tb_L_law 405 = some (.iadd, 1, 0, []) := kj_L_law_5 (by decide) rfl
theorem u_L_law_405 {d : Nat} {ls : zL} {st : List zV} {h : zH} {x y : Int32} : zX d tb_L_law 405 ls (.inl y :: .inl x :: st) h = zX d tb_L_law 406 ls (.inl (x + y) :: st) h := (zX_unf (o := (.iadd, 1, 0, [])) k_L_law_405).trans rfl
theorem k_L_law_406 : zlk tb_L_law 406 = some (.iaload, 1, 0, []) := kj_L_law_5 (by decide) rfl
theorem u_L_law_406 {d : Nat} {ls : zL} {st : List zV} {h : zH} {a : Nat} {i : Int32} : zX d tb_L_law 406 ls (.inl i :: .inr (.inr (some a)) :: st) h = if (zk h a).1 = 12 ∨ (zk h a).1 = 16 then (zix i (zk h a).2).bind fun j => zX d tb_L_law 407 ls (.inl (zi h a j) :: st) h else none := ux_ald k_L_law_406
theorem k_L_law_407 : zlk tb_L_law 407 = some (.aload_n 0, 1, 0, []) := kj_L_law_5 (by decide) rfl
theorem u_L_law_407 {d : Nat} {st : List zV} {h : zH} {l1 l2 l3 : Option zV} {x : (Option Nat)} : zX d tb_L_law 407 [some (.inr (.inr x)), l1, l2, l3] st h = zX d tb_L_law 408 [some (.inr (.inr x)), l1, l2, l3] (.inr (.inr x) :: st) h := (zX_unf (o := (.aload_n 0, 1, 0, [])) k_L_law_407).trans rfl
theorem k_L_law_408 : zlk tb_L_law 408 = some (.iload_n 3, 1, 0, []) := kj_L_law_6 (by decide) rfl
theorem u_L_law_408 {d : Nat} {st : List zV} {h : zH} {l0 l1 l2 : Option zV} {x : Int32} : zX d tb_L_law 408 [l0, l1, l2, some (.inl x)] st h = zX d tb_L_law 409 [l0, l1, l2, some (.inl x)] (.inl x :: st) h := (zX_unf (o := (.iload_n 3, 1, 0, [])) k_L_law_408).trans rfl
theorem k_L_law_409 : zlk tb_L_law 409 = some (.iconst 4, 1, 0, []) := kj_L_law_6 (by decide) rfl
theorem u_L_law_409 {d : Nat} {ls : zL} {st : List zV} {h : zH} : zX d tb_L_law 409 ls st h = zX d tb_L_law 410 ls (.inl 4 :: st) h := (zX_unf (o := (.iconst 4, 1, 0, [])) k_L_law_409).trans rfl
theorem k_L_law_410 : zlk tb_L_law 410 = some (.iadd, 1, 0, []) := kj_L_law_6 (by decide) rfl
theorem u_L_law_410 {d : Nat} {ls : zL} {st : List zV} {h : zH} {x y : Int32} : zX d tb_L_law 410 ls (.inl y :: .inl x :: st) h = zX d tb_L_law 411 ls (.inl (x + y) :: st) h := (zX_unf (o := (.iadd, 1, 0, [])) k_L_law_410).trans rfl
theorem k_L_law_411 : zlk tb_L_law 411 = some (.iaload, 1, 0, []) := kj_L_law_6 (by decide) rfl
theorem u_L_law_411 {d : Nat} {ls : zL} {st : List zV} {h : zH} {a : Nat} {i : Int32} : zX d tb_L_law 411 ls (.inl i :: .inr (.inr (some a)) :: st) h = if (zk h a).1 = 12 ∨ (zk h a).1 = 16 then (zix i (zk h a).2).bind fun j => zX d tb_L_law 412 ls (.inl (zi h a j) :: st) h else none := ux_ald k_L_law_411
theorem k_L_law_412 : zlk tb_L_law 412 = some (.invokevirtual 37, 3, 4, [(10, 58, 0, "", "")]) := kj_L_law_6 (by decide) rfl
theorem u_L_law_412 {d : Nat} {ls : zL} {h : zH} {a : Nat} {v0 : Int32} {v1 : Int32} {v2 : Int32} {v3 : Int32} : zX d tb_L_law 412 ls [.inl v3, .inl v2, .inl v1, .inl v0, .inr (.inr (some a))] h = if 10 = (zk h a).1 then (zcall (zP zM) d 58 [.inr (.inr (some a)), .inl v0, .inl v1, .inl v2, .inl v3] h).bind (fun q => zX d tb_L_law 415 ls (q.1.toList ++ []) q.2) else none := (ux_callV (t := [(10, 58, 0, "", "")]) (as := [.inl v0, .inl v1, .inl v2, .inl v3]) (r := []) k_L_law_412 (n := 4) rfl rfl rfl (Nat.le_of_ble_eq_true rfl)).trans (zfb_1 _ _)
theorem k_L_law_415 : zlk tb_L_law 415 = some (.aload_n 2, 1, 0, []) := kj_L_law_6 (by decide) rfl
theorem u_L_law_415 {d : Nat} {st : List zV} {h : zH} {l0 l1 l3 : Option zV} {x : (Option Nat)} : zX d tb_L_law 415 [l0, l1, some (.inr (.inr x)), l3] st h = zX d tb_L_law 416 [l0, l1, some (.inr (.inr x)), l3] (.inr (.inr x) :: st) h := (zX_unf (o := (.aload_n 2, 1, 0, [])) k_L_law_415).trans rfl
theorem k_L_law_416 : zlk tb_L_law 416 = some (.aload_n 0, 1, 0, []) := kj_L_law_6 (by decide) rfl
theorem u_L_law_416 {d : Nat} {st : List zV} {h : zH} {l1 l2 l3 : Option zV} {x : (Option Nat)} : zX d tb_L_law 416 [some (.inr (.inr x)), l1, l2, l3] st h = zX d tb_L_law 417 [some (.inr (.inr x)), l1, l2, l3] (.inr (.inr x) :: st) h := (zX_unf (o := (.aload_n 0, 1, 0, [])) k_L_law_416).trans rfl
theorem k_L_law_417 : zlk tb_L_law 417 = some (.iload_n 3, 1, 0, []) := kj_L_law_6 (by decide) rfl
theorem u_L_law_417 {d : Nat} {st : List zV} {h : zH} {l0 l1 l2 : Option zV} {x : Int32} : zX d tb_L_law 417 [l0, l1, l2, some (.inl x)] st h = zX d tb_L_law 418 [l0, l1, l2, some (.inl x)] (.inl x :: st) h := (zX_unf (o := (.iload_n 3, 1, 0, [])) k_L_law_417).trans rfl
theorem k_L_law_418 : zlk tb_L_law 418 = some (.iconst 1, 1, 0, []) := kj_L_law_6 (by decide) rfl
theorem u_L_law_418 {d : Nat} {ls : zL} {st : List zV} {h : zH} : zX d tb_L_law 418 ls st h = zX d tb_L_law 419 ls (.inl 1 :: st) h := (zX_unf (o := (.iconst 1, 1, 0, [])) k_L_law_418).trans rfl
theorem k_L_law_419 : zlk tb_L_law 419 = some (.iadd, 1, 0, []) := kj_L_law_6 (by decide) rfl
theorem u_L_law_419 {d : Nat} {ls : zL} {st : List zV} {h : zH} {x y : Int32} : zX d tb_L_law 419 ls (.inl y :: .inl x :: st) h = zX d tb_L_law 420 ls (.inl (x + y) :: st) h := (zX_unf (o := (.iadd, 1, 0, [])) k_L_law_419).trans rfl
theorem k_L_law_420 : zlk tb_L_law 420 = some (.iaload, 1, 0, []) := kj_L_law_6 (by decide) rfl
theorem u_L_law_420 {d : Nat} {ls : zL} {st : List zV} {h : zH} {a : Nat} {i : Int32} : zX d tb_L_law 420 ls (.inl i :: .inr (.inr (some a)) :: st) h = if (zk h a).1 = 12 ∨ (zk h a).1 = 16 then (zix i (zk h a).2).bind fun j => zX d tb_L_law 421 ls (.inl (zi h a j) :: st) h else none := ux_ald k_L_law_420
theorem k_L_law_421 : zlk tb_L_law 421 = some (.aload_n 0, 1, 0, []) := kj_L_law_6 (by decide) rfl
theorem u_L_law_421 {d : Nat} {st : List zV} {h : zH} {l1 l2 l3 : Option zV} {x : (Option Nat)} : zX d tb_L_law 421 [some (.inr (.inr x)), l1, l2, l3] st h = zX d tb_L_law 422 [some (.inr (.inr x)), l1, l2, l3] (.inr (.inr x) :: st) h := (zX_unf (o := (.aload_n 0, 1, 0, [])) k_L_law_421).trans rfl
theorem k_L_law_422 : zlk tb_L_law 422 = some (.iload_n 3, 1, 0, []) := kj_L_law_6 (by decide) rfl
theorem u_L_law_422 {d : Nat} {st : List zV} {h : zH} {l0 l1 l2 : Option zV} {x : Int32} : zX d tb_L_law 422 [l0, l1, l2, some (.inl x)] st h = zX d tb_L_law 423 [l0, l1, l2, some (.inl x)] (.inl x :: st) h := (zX_unf (o := (.iload_n 3, 1, 0, [])) k_L_law_422).trans rfl
theorem k_L_law_423 : zlk tb_L_law 423 = some (.iconst 2, 1, 0, []) := kj_L_law_6 (by decide) rfl
theorem u_L_law_423 {d : Nat} {ls : zL} {st : List zV} {h : zH} : zX d tb_L_law 423 ls st h = zX d tb_L_law 424 ls (.inl 2 :: st) h := (zX_unf (o := (.iconst 2, 1, 0, [])) k_L_law_423).trans rfl
theorem k_L_law_424 : zlk tb_L_law 424 = some (.iadd, 1, 0, []) := kj_L_law_6 (by decide) rfl
theorem u_L_law_424 {d : Nat} {ls : zL} {st : List zV} {h : zH} {x y : Int32} : zX d tb_L_law 424 ls (.inl y :: .inl x :: st) h = zX d tb_L_law 425 ls (.inl (x + y) :: st) h := (zX_unf (o := (.iadd, 1, 0, [])) k_L_law_424).trans rfl
theorem k_L_law_425 : zlk tb_L_law 425 = some (.iaload, 1, 0, []) := kj_L_law_6 (by decide) rfl
theorem u_L_law_425 {d : Nat} {ls : zL} {st : List zV} {h : zH} {a : Nat} {i : Int32} : zX d tb_L_law 425 ls (.inl i :: .inr (.inr (some a)) :: st) h = if (zk h a).1 = 12 ∨ (zk h a).1 = 16 then (zix i (zk h a).2).bind fun j => zX d tb_L_law 426 ls (.inl (zi h a j) :: st) h else none := ux_ald k_L_law_425
theorem k_L_law_426 : zlk tb_L_law 426 = some (.aload_n 0, 1, 0, []) := kj_L_law_6 (by decide) rfl
theorem u_L_law_426 {d : Nat} {st : List zV} {h : zH} {l1 l2 l3 : Option zV} {x : (Option Nat)} : zX d tb_L_law 426 [some (.inr (.inr x)), l1, l2, l3] st h = zX d tb_L_law 427 [some (.inr (.inr x)), l1, l2, l3] (.inr (.inr x) :: st) h := (zX_unf (o := (.aload_n 0, 1, 0, [])) k_L_law_426).trans rfl
theorem k_L_law_427 : zlk tb_L_law 427 = some (.iload_n 3, 1, 0, []) := kj_L_law_6 (by decide) rfl
theorem u_L_law_427 {d : Nat} {st : List zV} {h : zH} {l0 l1 l2 : Option zV} {x : Int32} : zX d tb_L_law 427 [l0, l1, l2, some (.inl x)] st h = zX d tb_L_law 428 [l0, l1, l2, some (.inl x)] (.inl x :: st) h := (zX_unf (o := (.iload_n 3, 1, 0, [])) k_L_law_427).trans rfl
theorem k_L_law_428 : zlk tb_L_law 428 = some (.iconst 3, 1, 0, []) := kj_L_law_6 (by decide) rfl
theorem u_L_law_428 {d : Nat} {ls : zL} {st : List zV} {h : zH} : zX d tb_L_law 428 ls st h = zX d tb_L_law 429 ls (.inl 3 :: st) h := (zX_unf (o := (.iconst 3, 1, 0, [])) k_L_law_428).trans rfl
theorem k_L_law_429 : zlk tb_L_law 429 = some (.iadd, 1, 0, []) := kj_L_law_6 (by decide) rfl
theorem u_L_law_429 {d : Nat} {ls : zL} {st : List zV} {h : zH} {x y : Int32} : zX d tb_L_law 429 ls (.inl y :: .inl x :: st) h = zX d tb_L_law 430 ls (.inl (x + y) :: st) h := (zX_unf (o := (.iadd, 1, 0, [])) k_L_law_429).trans rfl
theorem k_L_law_430 : zlk tb_L_law 430 = some (.iaload, 1, 0, []) := kj_L_law_6 (by decide) rfl
theorem u_L_law_430 {d : Nat} {ls : zL} {st : List zV} {h : zH} {a : Nat} {i : Int32} : zX d tb_L_law 430 ls (.inl i :: .inr (.inr (some a)) :: st) h = if (zk h a).1 = 12 ∨ (zk h a).1 = 16 then (zix i (zk h a).2).bind fun j => zX d tb_L_law 431 ls (.inl (zi h a j) :: st) h else none := ux_ald k_L_law_430
theorem k_L_law_431 : zlk tb_L_law 431 = some (.aload_n 0, 1, 0, []) := kj_L_law_6 (by decide) rfl
theorem u_L_law_431 {d : Nat} {st : List zV} {h : zH} {l1 l2 l3 : Option zV} {x : (Option Nat)} : zX d tb_L_law 431 [some (.inr (.inr x)), l1, l2, l3] st h = zX d tb_L_law 432 [some (.inr (.inr x)), l1, l2, l3] (.inr (.inr x) :: st) h := (zX_unf (o := (.aload_n 0, 1, 0, [])) k_L_law_431).trans rfl
theorem k_L_law_432 : zlk tb_L_law 432 = some (.iload_n 3, 1, 0, []) := kj_L_law_6 (by decide) rfl
theorem u_L_law_432 {d : Nat} {st : List zV} {h : zH} {l0 l1 l2 : Option zV} {x : Int32} : zX d tb_L_law 432 [l0, l1, l2, some (.inl x)] st h = zX d tb_L_law 433 [l0, l1, l2, some (.inl x)] (.inl x :: st) h := (zX_unf (o := (.iload_n 3, 1, 0, [])) k_L_law_432).trans rfl
theorem k_L_law_433 : zlk tb_L_law 433 = some (.iconst 4, 1, 0, []) := kj_L_law_6 (by decide) rfl
theorem u_L_law_433 {d : Nat} {ls : zL} {st : List zV} {h : zH} : zX d tb_L_law 433 ls st h = zX d tb_L_law 434 ls (.inl 4 :: st) h := (zX_unf (o := (.iconst 4, 1, 0, [])) k_L_law_433).trans rfl
theorem k_L_law_434 : zlk tb_L_law 434 = some (.iadd, 1, 0, []) := kj_L_law_6 (by decide) rfl
theorem u_L_law_434 {d : Nat} {ls : zL} {st : List zV} {h : zH} {x y : Int32} : zX d tb_L_law 434 ls (.inl y :: .inl x :: st) h = zX d tb_L_law 435 ls (.inl (x + y) :: st) h := (zX_unf (o := (.iadd, 1, 0, [])) k_L_law_434).trans rfl
theorem k_L_law_435 : zlk tb_L_law 435 = some (.iaload, 1, 0, []) := kj_L_law_6 (by decide) rfl
theorem u_L_law_435 {d : Nat} {ls : zL} {st : List zV} {h : zH} {a : Nat} {i : Int32} : zX d tb_L_law 435 ls (.inl i :: .inr (.inr (some a)) :: st) h = if (zk h a).1 = 12 ∨ (zk h a).1 = 16 then (zix i (zk h a).2).bind fun j => zX d tb_L_law 436 ls (.inl (zi h a j) :: st) h else none := ux_ald k_L_law_435
theorem k_L_law_436 : zlk tb_L_law 436 = some (.invokevirtual 40, 3, 4, [(11, 113, 0, "", "")]) := kj_L_law_6 (by decide) rfl
theorem u_L_law_436 {d : Nat} {ls : zL} {h : zH} {a : Nat} {v0 : Int32} {v1 : Int32} {v2 : Int32} {v3 : Int32} {r0 : zV} : zX d tb_L_law 436 ls [.inl v3, .inl v2, .inl v1, .inl v0, .inr (.inr (some a)), r0] h = if 11 = (zk h a).1 then (zcall (zP zM) d 113 [.inr (.inr (some a)), .inl v0, .inl v1, .inl v2, .inl v3] h).bind (fun q => zX d tb_L_law 439 ls (q.1.toList ++ [r0]) q.2) else none := (ux_callV (t := [(11, 113, 0, "", "")]) (as := [.inl v0, .inl v1, .inl v2, .inl v3]) (r := [r0]) k_L_law_436 (n := 4) rfl rfl rfl (Nat.le_of_ble_eq_true rfl)).trans (zfb_1 _ _)
theorem k_L_law_439 : zlk tb_L_law 439 = some (.if_icmp .eq 591, 3, 0, []) := kj_L_law_6 (by decide) rfl
theorem u_L_law_439 {d : Nat} {ls : zL} {st : List zV} {h : zH} {x y : Int32} : zX d tb_L_law 439 ls (.inl y :: .inl x :: st) h = if x = y then zX d tb_L_law 1030 ls st h else zX d tb_L_law 442 ls st h := ux_ic_eq k_L_law_439 (by decide)
theorem k_L_law_442 : zlk tb_L_law 442 = some (.iconst 0, 1, 0, []) := kj_L_law_6 (by decide) rfl
theorem u_L_law_442 {d : Nat} {ls : zL} {st : List zV} {h : zH} : zX d tb_L_law 442 ls st h = zX d tb_L_law 443 ls (.inl 0 :: st) h := (zX_unf (o := (.iconst 0, 1, 0, [])) k_L_law_442).trans rfl
theorem k_L_law_443 : zlk tb_L_law 443 = some (.ireturn, 1, 1, []) := kj_L_law_6 (by decide) rfl
theorem u_L_law_443 {d : Nat} {ls : zL} {h : zH} {v : Int32} : zX d tb_L_law 443 ls [.inl v] h = if v = 0 ∨ v = 1 then some (some (.inl v), h) else none := ux_zret k_L_law_443
theorem k_L_law_444 : zlk tb_L_law 444 = some (.aload_n 1, 1, 0, []) := kj_L_law_6 (by decide) rfl
theorem u_L_law_444 {d : Nat} {st : List zV} {h : zH} {l0 l2 l3 : Option zV} {x : (Option Nat)} : zX d tb_L_law 444 [l0, some (.inr (.inr x)), l2, l3] st h = zX d tb_L_law 445 [l0, some (.inr (.inr x)), l2, l3] (.inr (.inr x) :: st) h := (zX_unf (o := (.aload_n 1, 1, 0, [])) k_L_law_444).trans rfl
theorem k_L_law_445 : zlk tb_L_law 445 = some (.aload_n 0, 1, 0, []) := kj_L_law_6 (by decide) rfl
theorem u_L_law_445 {d : Nat} {st : List zV} {h : zH} {l1 l2 l3 : Option zV} {x : (Option Nat)} : zX d tb_L_law 445 [some (.inr (.inr x)), l1, l2, l3] st h = zX d tb_L_law 446 [some (.inr (.inr x)), l1, l2, l3] (.inr (.inr x) :: st) h := (zX_unf (o := (.aload_n 0, 1, 0, [])) k_L_law_445).trans rfl
theorem k_L_law_446 : zlk tb_L_law 446 = some (.iload_n 3, 1, 0, []) := kj_L_law_6 (by decide) rfl
theorem u_L_law_446 {d : Nat} {st : List zV} {h : zH} {l0 l1 l2 : Option zV} {x : Int32} : zX d tb_L_law 446 [l0, l1, l2, some (.inl x)] st h = zX d tb_L_law 447 [l0, l1, l2, some (.inl x)] (.inl x :: st) h := (zX_unf (o := (.iload_n 3, 1, 0, [])) k_L_law_446).trans rfl
theorem k_L_law_447 : zlk tb_L_law 447 = some (.iconst 1, 1, 0, []) := kj_L_law_6 (by decide) rfl
theorem u_L_law_447 {d : Nat} {ls : zL} {st : List zV} {h : zH} : zX d tb_L_law 447 ls st h = zX d tb_L_law 448 ls (.inl 1 :: st) h := (zX_unf (o := (.iconst 1, 1, 0, [])) k_L_law_447).trans rfl
theorem k_L_law_448 : zlk tb_L_law 448 = some (.iadd, 1, 0, []) := kj_L_law_6 (by decide) rfl
theorem u_L_law_448 {d : Nat} {ls : zL} {st : List zV} {h : zH} {x y : Int32} : zX d tb_L_law 448 ls (.inl y :: .inl x :: st) h = zX d tb_L_law 449 ls (.inl (x + y) :: st) h := (zX_unf (o := (.iadd, 1, 0, [])) k_L_law_448).trans rfl
theorem k_L_law_449 : zlk tb_L_law 449 = some (.iaload, 1, 0, []) := kj_L_law_6 (by decide) rfl
theorem u_L_law_449 {d : Nat} {ls : zL} {st : List zV} {h : zH} {a : Nat} {i : Int32} : zX d tb_L_law 449 ls (.inl i :: .inr (.inr (some a)) :: st) h = if (zk h a).1 = 12 ∨ (zk h a).1 = 16 then (zix i (zk h a).2).bind fun j => zX d tb_L_law 450 ls (.inl (zi h a j) :: st) h else none := ux_ald k_L_law_449
theorem k_L_law_450 : zlk tb_L_law 450 = some (.aload_n 0, 1, 0, []) := kj_L_law_6 (by decide) rfl
theorem u_L_law_450 {d : Nat} {st : List zV} {h : zH} {l1 l2 l3 : Option zV} {x : (Option Nat)} : zX d tb_L_law 450 [some (.inr (.inr x)), l1, l2, l3] st h = zX d tb_L_law 451 [some (.inr (.inr x)), l1, l2, l3] (.inr (.inr x) :: st) h := (zX_unf (o := (.aload_n 0, 1, 0, [])) k_L_law_450).trans rfl
theorem k_L_law_451 : zlk tb_L_law 451 = some (.iload_n 3, 1, 0, []) := kj_L_law_6 (by decide) rfl
theorem u_L_law_451 {d : Nat} {st : List zV} {h : zH} {l0 l1 l2 : Option zV} {x : Int32} : zX d tb_L_law 451 [l0, l1, l2, some (.inl x)] st h = zX d tb_L_law 452 [l0, l1, l2, some (.inl x)] (.inl x :: st) h := (zX_unf (o := (.iload_n 3, 1, 0, [])) k_L_law_451).trans rfl
theorem k_L_law_452 : zlk tb_L_law 452 = some (.iconst 2, 1, 0, []) := kj_L_law_6 (by decide) rfl
theorem u_L_law_452 {d : Nat} {ls : zL} {st : List zV} {h : zH} : zX d tb_L_law 452 ls st h = zX d tb_L_law 453 ls (.inl 2 :: st) h := (zX_unf (o := (.iconst 2, 1, 0, [])) k_L_law_452).trans rfl
theorem k_L_law_453 : zlk tb_L_law 453 = some (.iadd, 1, 0, []) := kj_L_law_6 (by decide) rfl
theorem u_L_law_453 {d : Nat} {ls : zL} {st : List zV} {h : zH} {x y : Int32} : zX d tb_L_law 453 ls (.inl y :: .inl x :: st) h = zX d tb_L_law 454 ls (.inl (x + y) :: st) h := (zX_unf (o := (.iadd, 1, 0, [])) k_L_law_453).trans rfl
theorem k_L_law_454 : zlk tb_L_law 454 = some (.iaload, 1, 0, []) := kj_L_law_7 (by decide) rfl
theorem u_L_law_454 {d : Nat} {ls : zL} {st : List zV} {h : zH} {a : Nat} {i : Int32} : zX d tb_L_law 454 ls (.inl i :: .inr (.inr (some a)) :: st) h = if (zk h a).1 = 12 ∨ (zk h a).1 = 16 then (zix i (zk h a).2).bind fun j => zX d tb_L_law 455 ls (.inl (zi h a j) :: st) h else none := ux_ald k_L_law_454
theorem k_L_law_455 : zlk tb_L_law 455 = some (.invokevirtual 41, 3, 2, [(10, 61, 0, "", "")]) := kj_L_law_7 (by decide) rfl
theorem u_L_law_455 {d : Nat} {ls : zL} {h : zH} {a : Nat} {v0 : Int32} {v1 : Int32} : zX d tb_L_law 455 ls [.inl v1, .inl v0, .inr (.inr (some a))] h = if 10 = (zk h a).1 then (zcall (zP zM) d 61 [.inr (.inr (some a)), .inl v0, .inl v1] h).bind (fun q => zX d tb_L_law 458 ls (q.1.toList ++ []) q.2) else none := (ux_callV (t := [(10, 61, 0, "", "")]) (as := [.inl v0, .inl v1]) (r := []) k_L_law_455 (n := 2) rfl rfl rfl (Nat.le_of_ble_eq_true rfl)).trans (zfb_1 _ _)
theorem k_L_law_458 : zlk tb_L_law 458 = some (.aload_n 2, 1, 0, []) := kj_L_law_7 (by decide) rfl
theorem u_L_law_458 {d : Nat} {st : List zV} {h : zH} {l0 l1 l3 : Option zV} {x : (Option Nat)} : zX d tb_L_law 458 [l0, l1, some (.inr (.inr x)), l3] st h = zX d tb_L_law 459 [l0, l1, some (.inr (.inr x)), l3] (.inr (.inr x) :: st) h := (zX_unf (o := (.aload_n 2, 1, 0, [])) k_L_law_458).trans rfl
theorem k_L_law_459 : zlk tb_L_law 459 = some (.aload_n 0, 1, 0, []) := kj_L_law_7 (by decide) rfl
theorem u_L_law_459 {d : Nat} {st : List zV} {h : zH} {l1 l2 l3 : Option zV} {x : (Option Nat)} : zX d tb_L_law 459 [some (.inr (.inr x)), l1, l2, l3] st h = zX d tb_L_law 460 [some (.inr (.inr x)), l1, l2, l3] (.inr (.inr x) :: st) h := (zX_unf (o := (.aload_n 0, 1, 0, [])) k_L_law_459).trans rfl
theorem k_L_law_460 : zlk tb_L_law 460 = some (.iload_n 3, 1, 0, []) := kj_L_law_7 (by decide) rfl
theorem u_L_law_460 {d : Nat} {st : List zV} {h : zH} {l0 l1 l2 : Option zV} {x : Int32} : zX d tb_L_law 460 [l0, l1, l2, some (.inl x)] st h = zX d tb_L_law 461 [l0, l1, l2, some (.inl x)] (.inl x :: st) h := (zX_unf (o := (.iload_n 3, 1, 0, [])) k_L_law_460).trans rfl
theorem k_L_law_461 : zlk tb_L_law 461 = some (.iconst 1, 1, 0, []) := kj_L_law_7 (by decide) rfl
theorem u_L_law_461 {d : Nat} {ls : zL} {st : List zV} {h : zH} : zX d tb_L_law 461 ls st h = zX d tb_L_law 462 ls (.inl 1 :: st) h := (zX_unf (o := (.iconst 1, 1, 0, [])) k_L_law_461).trans rfl
theorem k_L_law_462 : zlk tb_L_law 462 = some (.iadd, 1, 0, []) := kj_L_law_7 (by decide) rfl
theorem u_L_law_462 {d : Nat} {ls : zL} {st : List zV} {h : zH} {x y : Int32} : zX d tb_L_law 462 ls (.inl y :: .inl x :: st) h = zX d tb_L_law 463 ls (.inl (x + y) :: st) h := (zX_unf (o := (.iadd, 1, 0, [])) k_L_law_462).trans rfl
theorem k_L_law_463 : zlk tb_L_law 463 = some (.iaload, 1, 0, []) := kj_L_law_7 (by decide) rfl
theorem u_L_law_463 {d : Nat} {ls : zL} {st : List zV} {h : zH} {a : Nat} {i : Int32} : zX d tb_L_law 463 ls (.inl i :: .inr (.inr (some a)) :: st) h = if (zk h a).1 = 12 ∨ (zk h a).1 = 16 then (zix i (zk h a).2).bind fun j => zX d tb_L_law 464 ls (.inl (zi h a j) :: st) h else none := ux_ald k_L_law_463
theorem k_L_law_464 : zlk tb_L_law 464 = some (.aload_n 0, 1, 0, []) := kj_L_law_7 (by decide) rfl
theorem u_L_law_464 {d : Nat} {st : List zV} {h : zH} {l1 l2 l3 : Option zV} {x : (Option Nat)} : zX d tb_L_law 464 [some (.inr (.inr x)), l1, l2, l3] st h = zX d tb_L_law 465 [some (.inr (.inr x)), l1, l2, l3] (.inr (.inr x) :: st) h := (zX_unf (o := (.aload_n 0, 1, 0, [])) k_L_law_464).trans rfl
theorem k_L_law_465 : zlk tb_L_law 465 = some (.iload_n 3, 1, 0, []) := kj_L_law_7 (by decide) rfl
theorem u_L_law_465 {d : Nat} {st : List zV} {h : zH} {l0 l1 l2 : Option zV} {x : Int32} : zX d tb_L_law 465 [l0, l1, l2, some (.inl x)] st h = zX d tb_L_law 466 [l0, l1, l2, some (.inl x)] (.inl x :: st) h := (zX_unf (o := (.iload_n 3, 1, 0, [])) k_L_law_465).trans rfl
theorem k_L_law_466 : zlk tb_L_law 466 = some (.iconst 2, 1, 0, []) := kj_L_law_7 (by decide) rfl
theorem u_L_law_466 {d : Nat} {ls : zL} {st : List zV} {h : zH} : zX d tb_L_law 466 ls st h = zX d tb_L_law 467 ls (.inl 2 :: st) h := (zX_unf (o := (.iconst 2, 1, 0, [])) k_L_law_466).trans rfl
theorem k_L_law_467 : zlk tb_L_law 467 = some (.iadd, 1, 0, []) := kj_L_law_7 (by decide) rfl
theorem u_L_law_467 {d : Nat} {ls : zL} {st : List zV} {h : zH} {x y : Int32} : zX d tb_L_law 467 ls (.inl y :: .inl x :: st) h = zX d tb_L_law 468 ls (.inl (x + y) :: st) h := (zX_unf (o := (.iadd, 1, 0, [])) k_L_law_467).trans rfl
theorem k_L_law_468 : zlk tb_L_law 468 = some (.iaload, 1, 0, []) := kj_L_law_7 (by decide) rfl
theorem u_L_law_468 {d : Nat} {ls : zL} {st : List zV} {h : zH} {a : Nat} {i : Int32} : zX d tb_L_law 468 ls (.inl i :: .inr (.inr (some a)) :: st) h = if (zk h a).1 = 12 ∨ (zk h a).1 = 16 then (zix i (zk h a).2).bind fun j => zX d tb_L_law 469 ls (.inl (zi h a j) :: st) h else none := ux_ald k_L_law_468
theorem k_L_law_469 : zlk tb_L_law 469 = some (.invokevirtual 44, 3, 2, [(11, 117, 0, "", "")]) := kj_L_law_7 (by decide) rfl
theorem u_L_law_469 {d : Nat} {ls : zL} {h : zH} {a : Nat} {v0 : Int32} {v1 : Int32} {r0 : zV} : zX d tb_L_law 469 ls [.inl v1, .inl v0, .inr (.inr (some a)), r0] h = if 11 = (zk h a).1 then (zcall (zP zM) d 117 [.inr (.inr (some a)), .inl v0, .inl v1] h).bind (fun q => zX d tb_L_law 472 ls (q.1.toList ++ [r0]) q.2) else none := (ux_callV (t := [(11, 117, 0, "", "")]) (as := [.inl v0, .inl v1]) (r := [r0]) k_L_law_469 (n := 2) rfl rfl rfl (Nat.le_of_ble_eq_true rfl)).trans (zfb_1 _ _)
theorem k_L_law_472 : zlk tb_L_law 472 = some (.if_icmp .eq 558, 3, 0, []) := kj_L_law_7 (by decide) rfl
theorem u_L_law_472 {d : Nat} {ls : zL} {st : List zV} {h : zH} {x y : Int32} : zX d tb_L_law 472 ls (.inl y :: .inl x :: st) h = if x = y then zX d tb_L_law 1030 ls st h else zX d tb_L_law 475 ls st h := ux_ic_eq k_L_law_472 (by decide)
theorem k_L_law_475 : zlk tb_L_law 475 = some (.iconst 0, 1, 0, []) := kj_L_law_7 (by decide) rfl
theorem u_L_law_475 {d : Nat} {ls : zL} {st : List zV} {h : zH} : zX d tb_L_law 475 ls st h = zX d tb_L_law 476 ls (.inl 0 :: st) h := (zX_unf (o := (.iconst 0, 1, 0, [])) k_L_law_475).trans rfl
theorem k_L_law_476 : zlk tb_L_law 476 = some (.ireturn, 1, 1, []) := kj_L_law_7 (by decide) rfl
theorem u_L_law_476 {d : Nat} {ls : zL} {h : zH} {v : Int32} : zX d tb_L_law 476 ls [.inl v] h = if v = 0 ∨ v = 1 then some (some (.inl v), h) else none := ux_zret k_L_law_476
theorem k_L_law_477 : zlk tb_L_law 477 = some (.aload_n 1, 1, 0, []) := kj_L_law_7 (by decide) rfl
theorem u_L_law_477 {d : Nat} {st : List zV} {h : zH} {l0 l2 l3 : Option zV} {x : (Option Nat)} : zX d tb_L_law 477 [l0, some (.inr (.inr x)), l2, l3] st h = zX d tb_L_law 478 [l0, some (.inr (.inr x)), l2, l3] (.inr (.inr x) :: st) h := (zX_unf (o := (.aload_n 1, 1, 0, [])) k_L_law_477).trans rfl
theorem k_L_law_478 : zlk tb_L_law 478 = some (.aload_n 0, 1, 0, []) := kj_L_law_7 (by decide) rfl
theorem u_L_law_478 {d : Nat} {st : List zV} {h : zH} {l1 l2 l3 : Option zV} {x : (Option Nat)} : zX d tb_L_law 478 [some (.inr (.inr x)), l1, l2, l3] st h = zX d tb_L_law 479 [some (.inr (.inr x)), l1, l2, l3] (.inr (.inr x) :: st) h := (zX_unf (o := (.aload_n 0, 1, 0, [])) k_L_law_478).trans rfl
theorem k_L_law_479 : zlk tb_L_law 479 = some (.iload_n 3, 1, 0, []) := kj_L_law_7 (by decide) rfl
theorem u_L_law_479 {d : Nat} {st : List zV} {h : zH} {l0 l1 l2 : Option zV} {x : Int32} : zX d tb_L_law 479 [l0, l1, l2, some (.inl x)] st h = zX d tb_L_law 480 [l0, l1, l2, some (.inl x)] (.inl x :: st) h := (zX_unf (o := (.iload_n 3, 1, 0, [])) k_L_law_479).trans rfl
theorem k_L_law_480 : zlk tb_L_law 480 = some (.iconst 1, 1, 0, []) := kj_L_law_7 (by decide) rfl
theorem u_L_law_480 {d : Nat} {ls : zL} {st : List zV} {h : zH} : zX d tb_L_law 480 ls st h = zX d tb_L_law 481 ls (.inl 1 :: st) h := (zX_unf (o := (.iconst 1, 1, 0, [])) k_L_law_480).trans rfl
theorem k_L_law_481 : zlk tb_L_law 481 = some (.iadd, 1, 0, []) := kj_L_law_7 (by decide) rfl
theorem u_L_law_481 {d : Nat} {ls : zL} {st : List zV} {h : zH} {x y : Int32} : zX d tb_L_law 481 ls (.inl y :: .inl x :: st) h = zX d tb_L_law 482 ls (.inl (x + y) :: st) h := (zX_unf (o := (.iadd, 1, 0, [])) k_L_law_481).trans rfl
theorem k_L_law_482 : zlk tb_L_law 482 = some (.iaload, 1, 0, []) := kj_L_law_7 (by decide) rfl
theorem u_L_law_482 {d : Nat} {ls : zL} {st : List zV} {h : zH} {a : Nat} {i : Int32} : zX d tb_L_law 482 ls (.inl i :: .inr (.inr (some a)) :: st) h = if (zk h a).1 = 12 ∨ (zk h a).1 = 16 then (zix i (zk h a).2).bind fun j => zX d tb_L_law 483 ls (.inl (zi h a j) :: st) h else none := ux_ald k_L_law_482
theorem k_L_law_483 : zlk tb_L_law 483 = some (.aload_n 0, 1, 0, []) := kj_L_law_7 (by decide) rfl
theorem u_L_law_483 {d : Nat} {st : List zV} {h : zH} {l1 l2 l3 : Option zV} {x : (Option Nat)} : zX d tb_L_law 483 [some (.inr (.inr x)), l1, l2, l3] st h = zX d tb_L_law 484 [some (.inr (.inr x)), l1, l2, l3] (.inr (.inr x) :: st) h := (zX_unf (o := (.aload_n 0, 1, 0, [])) k_L_law_483).trans rfl
theorem k_L_law_484 : zlk tb_L_law 484 = some (.iload_n 3, 1, 0, []) := kj_L_law_7 (by decide) rfl
theorem u_L_law_484 {d : Nat} {st : List zV} {h : zH} {l0 l1 l2 : Option zV} {x : Int32} : zX d tb_L_law 484 [l0, l1, l2, some (.inl x)] st h = zX d tb_L_law 485 [l0, l1, l2, some (.inl x)] (.inl x :: st) h := (zX_unf (o := (.iload_n 3, 1, 0, [])) k_L_law_484).trans rfl
theorem k_L_law_485 : zlk tb_L_law 485 = some (.iconst 2, 1, 0, []) := kj_L_law_7 (by decide) rfl
theorem u_L_law_485 {d : Nat} {ls : zL} {st : List zV} {h : zH} : zX d tb_L_law 485 ls st h = zX d tb_L_law 486 ls (.inl 2 :: st) h := (zX_unf (o := (.iconst 2, 1, 0, [])) k_L_law_485).trans rfl
theorem k_L_law_486 : zlk tb_L_law 486 = some (.iadd, 1, 0, []) := kj_L_law_7 (by decide) rfl
theorem u_L_law_486 {d : Nat} {ls : zL} {st : List zV} {h : zH} {x y : Int32} : zX d tb_L_law 486 ls (.inl y :: .inl x :: st) h = zX d tb_L_law 487 ls (.inl (x + y) :: st) h := (zX_unf (o := (.iadd, 1, 0, [])) k_L_law_486).trans rfl
theorem k_L_law_487 : zlk tb_L_law 487 = some (.iaload, 1, 0, []) := kj_L_law_7 (by decide) rfl
theorem u_L_law_487 {d : Nat} {ls : zL} {st : List zV} {h : zH} {a : Nat} {i : Int32} : zX d tb_L_law 487 ls (.inl i :: .inr (.inr (some a)) :: st) h = if (zk h a).1 = 12 ∨ (zk h a).1 = 16 then (zix i (zk h a).2).bind fun j => zX d tb_L_law 488 ls (.inl (zi h a j) :: st) h else none := ux_ald k_L_law_487
theorem k_L_law_488 : zlk tb_L_law 488 = some (.aload_n 0, 1, 0, []) := kj_L_law_7 (by decide) rfl
theorem u_L_law_488 {d : Nat} {st : List zV} {h : zH} {l1 l2 l3 : Option zV} {x : (Option Nat)} : zX d tb_L_law 488 [some (.inr (.inr x)), l1, l2, l3] st h = zX d tb_L_law 489 [some (.inr (.inr x)), l1, l2, l3] (.inr (.inr x) :: st) h := (zX_unf (o := (.aload_n 0, 1, 0, [])) k_L_law_488).trans rfl
theorem k_L_law_489 : zlk tb_L_law 489 = some (.iload_n 3, 1, 0, []) := kj_L_law_7 (by decide) rfl
theorem u_L_law_489 {d : Nat} {st : List zV} {h : zH} {l0 l1 l2 : Option zV} {x : Int32} : zX d tb_L_law 489 [l0, l1, l2, some (.inl x)] st h = zX d tb_L_law 490 [l0, l1, l2, some (.inl x)] (.inl x :: st) h := (zX_unf (o := (.iload_n 3, 1, 0, [])) k_L_law_489).trans rfl
theorem k_L_law_490 : zlk tb_L_law 490 = some (.iconst 3, 1, 0, []) := kj_L_law_7 (by decide) rfl
theorem u_L_law_490 {d : Nat} {ls : zL} {st : List zV} {h : zH} : zX d tb_L_law 490 ls st h = zX d tb_L_law 491 ls (.inl 3 :: st) h := (zX_unf (o := (.iconst 3, 1, 0, [])) k_L_law_490).trans rfl
theorem k_L_law_491 : zlk tb_L_law 491 = some (.iadd, 1, 0, []) := kj_L_law_7 (by decide) rfl
theorem u_L_law_491 {d : Nat} {ls : zL} {st : List zV} {h : zH} {x y : Int32} : zX d tb_L_law 491 ls (.inl y :: .inl x :: st) h = zX d tb_L_law 492 ls (.inl (x + y) :: st) h := (zX_unf (o := (.iadd, 1, 0, [])) k_L_law_491).trans rfl
theorem k_L_law_492 : zlk tb_L_law 492 = some (.iaload, 1, 0, []) := kj_L_law_7 (by decide) rfl
theorem u_L_law_492 {d : Nat} {ls : zL} {st : List zV} {h : zH} {a : Nat} {i : Int32} : zX d tb_L_law 492 ls (.inl i :: .inr (.inr (some a)) :: st) h = if (zk h a).1 = 12 ∨ (zk h a).1 = 16 then (zix i (zk h a).2).bind fun j => zX d tb_L_law 493 ls (.inl (zi h a j) :: st) h else none := ux_ald k_L_law_492
theorem k_L_law_493 : zlk tb_L_law 493 = some (.aload_n 0, 1, 0, []) := kj_L_law_7 (by decide) rfl
theorem u_L_law_493 {d : Nat} {st : List zV} {h : zH} {l1 l2 l3 : Option zV} {x : (Option Nat)} : zX d tb_L_law 493 [some (.inr (.inr x)), l1, l2, l3] st h = zX d tb_L_law 494 [some (.inr (.inr x)), l1, l2, l3] (.inr (.inr x) :: st) h := (zX_unf (o := (.aload_n 0, 1, 0, [])) k_L_law_493).trans rfl
theorem k_L_law_494 : zlk tb_L_law 494 = some (.iload_n 3, 1, 0, []) := kj_L_law_7 (by decide) rfl
theorem u_L_law_494 {d : Nat} {st : List zV} {h : zH} {l0 l1 l2 : Option zV} {x : Int32} : zX d tb_L_law 494 [l0, l1, l2, some (.inl x)] st h = zX d tb_L_law 495 [l0, l1, l2, some (.inl x)] (.inl x :: st) h := (zX_unf (o := (.iload_n 3, 1, 0, [])) k_L_law_494).trans rfl
theorem k_L_law_495 : zlk tb_L_law 495 = some (.iconst 4, 1, 0, []) := kj_L_law_7 (by decide) rfl
theorem u_L_law_495 {d : Nat} {ls : zL} {st : List zV} {h : zH} : zX d tb_L_law 495 ls st h = zX d tb_L_law 496 ls (.inl 4 :: st) h := (zX_unf (o := (.iconst 4, 1, 0, [])) k_L_law_495).trans rfl
theorem k_L_law_496 : zlk tb_L_law 496 = some (.iadd, 1, 0, []) := kj_L_law_7 (by decide) rfl
theorem u_L_law_496 {d : Nat} {ls : zL} {st : List zV} {h : zH} {x y : Int32} : zX d tb_L_law 496 ls (.inl y :: .inl x :: st) h = zX d tb_L_law 497 ls (.inl (x + y) :: st) h := (zX_unf (o := (.iadd, 1, 0, [])) k_L_law_496).trans rfl
theorem k_L_law_497 : zlk tb_L_law 497 = some (.iaload, 1, 0, []) := kj_L_law_7 (by decide) rfl
theorem u_L_law_497 {d : Nat} {ls : zL} {st : List zV} {h : zH} {a : Nat} {i : Int32} : zX d tb_L_law 497 ls (.inl i :: .inr (.inr (some a)) :: st) h = if (zk h a).1 = 12 ∨ (zk h a).1 = 16 then (zix i (zk h a).2).bind fun j => zX d tb_L_law 498 ls (.inl (zi h a j) :: st) h else none := ux_ald k_L_law_497
theorem k_L_law_498 : zlk tb_L_law 498 = some (.invokevirtual 45, 3, 4, [(10, 62, 0, "", "")]) := kj_L_law_7 (by decide) rfl
theorem u_L_law_498 {d : Nat} {ls : zL} {h : zH} {a : Nat} {v0 : Int32} {v1 : Int32} {v2 : Int32} {v3 : Int32} : zX d tb_L_law 498 ls [.inl v3, .inl v2, .inl v1, .inl v0, .inr (.inr (some a))] h = if 10 = (zk h a).1 then (zcall (zP zM) d 62 [.inr (.inr (some a)), .inl v0, .inl v1, .inl v2, .inl v3] h).bind (fun q => zX d tb_L_law 501 ls (q.1.toList ++ []) q.2) else none := (ux_callV (t := [(10, 62, 0, "", "")]) (as := [.inl v0, .inl v1, .inl v2, .inl v3]) (r := []) k_L_law_498 (n := 4) rfl rfl rfl (Nat.le_of_ble_eq_true rfl)).trans (zfb_1 _ _)
theorem k_L_law_501 : zlk tb_L_law 501 = some (.aload_n 2, 1, 0, []) := kj_L_law_7 (by decide) rfl
theorem u_L_law_501 {d : Nat} {st : List zV} {h : zH} {l0 l1 l3 : Option zV} {x : (Option Nat)} : zX d tb_L_law 501 [l0, l1, some (.inr (.inr x)), l3] st h = zX d tb_L_law 502 [l0, l1, some (.inr (.inr x)), l3] (.inr (.inr x) :: st) h := (zX_unf (o := (.aload_n 2, 1, 0, [])) k_L_law_501).trans rfl
theorem k_L_law_502 : zlk tb_L_law 502 = some (.aload_n 0, 1, 0, []) := kj_L_law_8 (by decide) rfl
theorem u_L_law_502 {d : Nat} {st : List zV} {h : zH} {l1 l2 l3 : Option zV} {x : (Option Nat)} : zX d tb_L_law 502 [some (.inr (.inr x)), l1, l2, l3] st h = zX d tb_L_law 503 [some (.inr (.inr x)), l1, l2, l3] (.inr (.inr x) :: st) h := (zX_unf (o := (.aload_n 0, 1, 0, [])) k_L_law_502).trans rfl
theorem k_L_law_503 : zlk tb_L_law 503 = some (.iload_n 3, 1, 0, []) := kj_L_law_8 (by decide) rfl
theorem u_L_law_503 {d : Nat} {st : List zV} {h : zH} {l0 l1 l2 : Option zV} {x : Int32} : zX d tb_L_law 503 [l0, l1, l2, some (.inl x)] st h = zX d tb_L_law 504 [l0, l1, l2, some (.inl x)] (.inl x :: st) h := (zX_unf (o := (.iload_n 3, 1, 0, [])) k_L_law_503).trans rfl
theorem k_L_law_504 : zlk tb_L_law 504 = some (.iconst 1, 1, 0, []) := kj_L_law_8 (by decide) rfl
theorem u_L_law_504 {d : Nat} {ls : zL} {st : List zV} {h : zH} : zX d tb_L_law 504 ls st h = zX d tb_L_law 505 ls (.inl 1 :: st) h := (zX_unf (o := (.iconst 1, 1, 0, [])) k_L_law_504).trans rfl
theorem k_L_law_505 : zlk tb_L_law 505 = some (.iadd, 1, 0, []) := kj_L_law_8 (by decide) rfl
theorem u_L_law_505 {d : Nat} {ls : zL} {st : List zV} {h : zH} {x y : Int32} : zX d tb_L_law 505 ls (.inl y :: .inl x :: st) h = zX d tb_L_law 506 ls (.inl (x + y) :: st) h := (zX_unf (o := (.iadd, 1, 0, [])) k_L_law_505).trans rfl
theorem k_L_law_506 : zlk tb_L_law 506 = some (.iaload, 1, 0, []) := kj_L_law_8 (by decide) rfl
theorem u_L_law_506 {d : Nat} {ls : zL} {st : List zV} {h : zH} {a : Nat} {i : Int32} : zX d tb_L_law 506 ls (.inl i :: .inr (.inr (some a)) :: st) h = if (zk h a).1 = 12 ∨ (zk h a).1 = 16 then (zix i (zk h a).2).bind fun j => zX d tb_L_law 507 ls (.inl (zi h a j) :: st) h else none := ux_ald k_L_law_506
theorem k_L_law_507 : zlk tb_L_law 507 = some (.aload_n 0, 1, 0, []) := kj_L_law_8 (by decide) rfl
theorem u_L_law_507 {d : Nat} {st : List zV} {h : zH} {l1 l2 l3 : Option zV} {x : (Option Nat)} : zX d tb_L_law 507 [some (.inr (.inr x)), l1, l2, l3] st h = zX d tb_L_law 508 [some (.inr (.inr x)), l1, l2, l3] (.inr (.inr x) :: st) h := (zX_unf (o := (.aload_n 0, 1, 0, [])) k_L_law_507).trans rfl
theorem k_L_law_508 : zlk tb_L_law 508 = some (.iload_n 3, 1, 0, []) := kj_L_law_8 (by decide) rfl
theorem u_L_law_508 {d : Nat} {st : List zV} {h : zH} {l0 l1 l2 : Option zV} {x : Int32} : zX d tb_L_law 508 [l0, l1, l2, some (.inl x)] st h = zX d tb_L_law 509 [l0, l1, l2, some (.inl x)] (.inl x :: st) h := (zX_unf (o := (.iload_n 3, 1, 0, [])) k_L_law_508).trans rfl
theorem k_L_law_509 : zlk tb_L_law 509 = some (.iconst 2, 1, 0, []) := kj_L_law_8 (by decide) rfl
theorem u_L_law_509 {d : Nat} {ls : zL} {st : List zV} {h : zH} : zX d tb_L_law 509 ls st h = zX d tb_L_law 510 ls (.inl 2 :: st) h := (zX_unf (o := (.iconst 2, 1, 0, [])) k_L_law_509).trans rfl
theorem k_L_law_510 : zlk tb_L_law 510 = some (.iadd, 1, 0, []) := kj_L_law_8 (by decide) rfl
theorem u_L_law_510 {d : Nat} {ls : zL} {st : List zV} {h : zH} {x y : Int32} : zX d tb_L_law 510 ls (.inl y :: .inl x :: st) h = zX d tb_L_law 511 ls (.inl (x + y) :: st) h := (zX_unf (o := (.iadd, 1, 0, [])) k_L_law_510).trans rfl
theorem k_L_law_511 : zlk tb_L_law 511 = some (.iaload, 1, 0, []) := kj_L_law_8 (by decide) rfl
theorem u_L_law_511 {d : Nat} {ls : zL} {st : List zV} {h : zH} {a : Nat} {i : Int32} : zX d tb_L_law 511 ls (.inl i :: .inr (.inr (some a)) :: st) h = if (zk h a).1 = 12 ∨ (zk h a).1 = 16 then (zix i (zk h a).2).bind fun j => zX d tb_L_law 512 ls (.inl (zi h a j) :: st) h else none := ux_ald k_L_law_511
theorem k_L_law_512 : zlk tb_L_law 512 = some (.aload_n 0, 1, 0, []) := kj_L_law_8 (by decide) rfl
theorem u_L_law_512 {d : Nat} {st : List zV} {h : zH} {l1 l2 l3 : Option zV} {x : (Option Nat)} : zX d tb_L_law 512 [some (.inr (.inr x)), l1, l2, l3] st h = zX d tb_L_law 513 [some (.inr (.inr x)), l1, l2, l3] (.inr (.inr x) :: st) h := (zX_unf (o := (.aload_n 0, 1, 0, [])) k_L_law_512).trans rfl
theorem k_L_law_513 : zlk tb_L_law 513 = some (.iload_n 3, 1, 0, []) := kj_L_law_8 (by decide) rfl
theorem u_L_law_513 {d : Nat} {st : List zV} {h : zH} {l0 l1 l2 : Option zV} {x : Int32} : zX d tb_L_law 513 [l0, l1, l2, some (.inl x)] st h = zX d tb_L_law 514 [l0, l1, l2, some (.inl x)] (.inl x :: st) h := (zX_unf (o := (.iload_n 3, 1, 0, [])) k_L_law_513).trans rfl
theorem k_L_law_514 : zlk tb_L_law 514 = some (.iconst 3, 1, 0, []) := kj_L_law_8 (by decide) rfl
theorem u_L_law_514 {d : Nat} {ls : zL} {st : List zV} {h : zH} : zX d tb_L_law 514 ls st h = zX d tb_L_law 515 ls (.inl 3 :: st) h := (zX_unf (o := (.iconst 3, 1, 0, [])) k_L_law_514).trans rfl
theorem k_L_law_515 : zlk tb_L_law 515 = some (.iadd, 1, 0, []) := kj_L_law_8 (by decide) rfl
theorem u_L_law_515 {d : Nat} {ls : zL} {st : List zV} {h : zH} {x y : Int32} : zX d tb_L_law 515 ls (.inl y :: .inl x :: st) h = zX d tb_L_law 516 ls (.inl (x + y) :: st) h := (zX_unf (o := (.iadd, 1, 0, [])) k_L_law_515).trans rfl
theorem k_L_law_516 : zlk tb_L_law 516 = some (.iaload, 1, 0, []) := kj_L_law_8 (by decide) rfl
theorem u_L_law_516 {d : Nat} {ls : zL} {st : List zV} {h : zH} {a : Nat} {i : Int32} : zX d tb_L_law 516 ls (.inl i :: .inr (.inr (some a)) :: st) h = if (zk h a).1 = 12 ∨ (zk h a).1 = 16 then (zix i (zk h a).2).bind fun j => zX d tb_L_law 517 ls (.inl (zi h a j) :: st) h else none := ux_ald k_L_law_516
theorem k_L_law_517 : zlk tb_L_law 517 = some (.aload_n 0, 1, 0, []) := kj_L_law_8 (by decide) rfl
theorem u_L_law_517 {d : Nat} {st : List zV} {h : zH} {l1 l2 l3 : Option zV} {x : (Option Nat)} : zX d tb_L_law 517 [some (.inr (.inr x)), l1, l2, l3] st h = zX d tb_L_law 518 [some (.inr (.inr x)), l1, l2, l3] (.inr (.inr x) :: st) h := (zX_unf (o := (.aload_n 0, 1, 0, [])) k_L_law_517).trans rfl
theorem k_L_law_518 : zlk tb_L_law 518 = some (.iload_n 3, 1, 0, []) := kj_L_law_8 (by decide) rfl
theorem u_L_law_518 {d : Nat} {st : List zV} {h : zH} {l0 l1 l2 : Option zV} {x : Int32} : zX d tb_L_law 518 [l0, l1, l2, some (.inl x)] st h = zX d tb_L_law 519 [l0, l1, l2, some (.inl x)] (.inl x :: st) h := (zX_unf (o := (.iload_n 3, 1, 0, [])) k_L_law_518).trans rfl
theorem k_L_law_519 : zlk tb_L_law 519 = some (.iconst 4, 1, 0, []) := kj_L_law_8 (by decide) rfl
theorem u_L_law_519 {d : Nat} {ls : zL} {st : List zV} {h : zH} : zX d tb_L_law 519 ls st h = zX d tb_L_law 520 ls (.inl 4 :: st) h := (zX_unf (o := (.iconst 4, 1, 0, [])) k_L_law_519).trans rfl
theorem k_L_law_520 : zlk tb_L_law 520 = some (.iadd, 1, 0, []) := kj_L_law_8 (by decide) rfl
theorem u_L_law_520 {d : Nat} {ls : zL} {st : List zV} {h : zH} {x y : Int32} : zX d tb_L_law 520 ls (.inl y :: .inl x :: st) h = zX d tb_L_law 521 ls (.inl (x + y) :: st) h := (zX_unf (o := (.iadd, 1, 0, [])) k_L_law_520).trans rfl
theorem k_L_law_521 : zlk tb_L_law 521 = some (.iaload, 1, 0, []) := kj_L_law_8 (by decide) rfl
theorem u_L_law_521 {d : Nat} {ls : zL} {st : List zV} {h : zH} {a : Nat} {i : Int32} : zX d tb_L_law 521 ls (.inl i :: .inr (.inr (some a)) :: st) h = if (zk h a).1 = 12 ∨ (zk h a).1 = 16 then (zix i (zk h a).2).bind fun j => zX d tb_L_law 522 ls (.inl (zi h a j) :: st) h else none := ux_ald k_L_law_521
theorem k_L_law_522 : zlk tb_L_law 522 = some (.invokevirtual 48, 3, 4, [(11, 118, 0, "", "")]) := kj_L_law_8 (by decide) rfl
theorem u_L_law_522 {d : Nat} {ls : zL} {h : zH} {a : Nat} {v0 : Int32} {v1 : Int32} {v2 : Int32} {v3 : Int32} {r0 : zV} : zX d tb_L_law 522 ls [.inl v3, .inl v2, .inl v1, .inl v0, .inr (.inr (some a)), r0] h = if 11 = (zk h a).1 then (zcall (zP zM) d 118 [.inr (.inr (some a)), .inl v0, .inl v1, .inl v2, .inl v3] h).bind (fun q => zX d tb_L_law 525 ls (q.1.toList ++ [r0]) q.2) else none := (ux_callV (t := [(11, 118, 0, "", "")]) (as := [.inl v0, .inl v1, .inl v2, .inl v3]) (r := [r0]) k_L_law_522 (n := 4) rfl rfl rfl (Nat.le_of_ble_eq_true rfl)).trans (zfb_1 _ _)
theorem k_L_law_525 : zlk tb_L_law 525 = some (.if_icmp .eq 505, 3, 0, []) := kj_L_law_8 (by decide) rfl
theorem u_L_law_525 {d : Nat} {ls : zL} {st : List zV} {h : zH} {x y : Int32} : zX d tb_L_law 525 ls (.inl y :: .inl x :: st) h = if x = y then zX d tb_L_law 1030 ls st h else zX d tb_L_law 528 ls st h := ux_ic_eq k_L_law_525 (by decide)
theorem k_L_law_528 : zlk tb_L_law 528 = some (.iconst 0, 1, 0, []) := kj_L_law_8 (by decide) rfl
theorem u_L_law_528 {d : Nat} {ls : zL} {st : List zV} {h : zH} : zX d tb_L_law 528 ls st h = zX d tb_L_law 529 ls (.inl 0 :: st) h := (zX_unf (o := (.iconst 0, 1, 0, [])) k_L_law_528).trans rfl
theorem k_L_law_529 : zlk tb_L_law 529 = some (.ireturn, 1, 1, []) := kj_L_law_8 (by decide) rfl
theorem u_L_law_529 {d : Nat} {ls : zL} {h : zH} {v : Int32} : zX d tb_L_law 529 ls [.inl v] h = if v = 0 ∨ v = 1 then some (some (.inl v), h) else none := ux_zret k_L_law_529
theorem k_L_law_530 : zlk tb_L_law 530 = some (.aload_n 1, 1, 0, []) := kj_L_law_8 (by decide) rfl
theorem u_L_law_530 {d : Nat} {st : List zV} {h : zH} {l0 l2 l3 : Option zV} {x : (Option Nat)} : zX d tb_L_law 530 [l0, some (.inr (.inr x)), l2, l3] st h = zX d tb_L_law 531 [l0, some (.inr (.inr x)), l2, l3] (.inr (.inr x) :: st) h := (zX_unf (o := (.aload_n 1, 1, 0, [])) k_L_law_530).trans rfl
theorem k_L_law_531 : zlk tb_L_law 531 = some (.aload_n 0, 1, 0, []) := kj_L_law_8 (by decide) rfl
theorem u_L_law_531 {d : Nat} {st : List zV} {h : zH} {l1 l2 l3 : Option zV} {x : (Option Nat)} : zX d tb_L_law 531 [some (.inr (.inr x)), l1, l2, l3] st h = zX d tb_L_law 532 [some (.inr (.inr x)), l1, l2, l3] (.inr (.inr x) :: st) h := (zX_unf (o := (.aload_n 0, 1, 0, [])) k_L_law_531).trans rfl
theorem k_L_law_532 : zlk tb_L_law 532 = some (.iload_n 3, 1, 0, []) := kj_L_law_8 (by decide) rfl
theorem u_L_law_532 {d : Nat} {st : List zV} {h : zH} {l0 l1 l2 : Option zV} {x : Int32} : zX d tb_L_law 532 [l0, l1, l2, some (.inl x)] st h = zX d tb_L_law 533 [l0, l1, l2, some (.inl x)] (.inl x :: st) h := (zX_unf (o := (.iload_n 3, 1, 0, [])) k_L_law_532).trans rfl
theorem k_L_law_533 : zlk tb_L_law 533 = some (.iconst 1, 1, 0, []) := kj_L_law_8 (by decide) rfl
theorem u_L_law_533 {d : Nat} {ls : zL} {st : List zV} {h : zH} : zX d tb_L_law 533 ls st h = zX d tb_L_law 534 ls (.inl 1 :: st) h := (zX_unf (o := (.iconst 1, 1, 0, [])) k_L_law_533).trans rfl
theorem k_L_law_534 : zlk tb_L_law 534 = some (.iadd, 1, 0, []) := kj_L_law_8 (by decide) rfl
theorem u_L_law_534 {d : Nat} {ls : zL} {st : List zV} {h : zH} {x y : Int32} : zX d tb_L_law 534 ls (.inl y :: .inl x :: st) h = zX d tb_L_law 535 ls (.inl (x + y) :: st) h := (zX_unf (o := (.iadd, 1, 0, [])) k_L_law_534).trans rfl
theorem k_L_law_535 : zlk tb_L_law 535 = some (.iaload, 1, 0, []) := kj_L_law_8 (by decide) rfl
theorem u_L_law_535 {d : Nat} {ls : zL} {st : List zV} {h : zH} {a : Nat} {i : Int32} : zX d tb_L_law 535 ls (.inl i :: .inr (.inr (some a)) :: st) h = if (zk h a).1 = 12 ∨ (zk h a).1 = 16 then (zix i (zk h a).2).bind fun j => zX d tb_L_law 536 ls (.inl (zi h a j) :: st) h else none := ux_ald k_L_law_535
theorem k_L_law_536 : zlk tb_L_law 536 = some (.invokevirtual 49, 3, 1, [(10, 63, 0, "", "")]) := kj_L_law_8 (by decide) rfl
theorem u_L_law_536 {d : Nat} {ls : zL} {h : zH} {a : Nat} {v0 : Int32} : zX d tb_L_law 536 ls [.inl v0, .inr (.inr (some a))] h = if 10 = (zk h a).1 then (zcall (zP zM) d 63 [.inr (.inr (some a)), .inl v0] h).bind (fun q => zX d tb_L_law 539 ls (q.1.toList ++ []) q.2) else none := (ux_callV (t := [(10, 63, 0, "", "")]) (as := [.inl v0]) (r := []) k_L_law_536 (n := 1) rfl rfl rfl (Nat.le_of_ble_eq_true rfl)).trans (zfb_1 _ _)
theorem k_L_law_539 : zlk tb_L_law 539 = some (.aload_n 2, 1, 0, []) := kj_L_law_8 (by decide) rfl
theorem u_L_law_539 {d : Nat} {st : List zV} {h : zH} {l0 l1 l3 : Option zV} {x : (Option Nat)} : zX d tb_L_law 539 [l0, l1, some (.inr (.inr x)), l3] st h = zX d tb_L_law 540 [l0, l1, some (.inr (.inr x)), l3] (.inr (.inr x) :: st) h := (zX_unf (o := (.aload_n 2, 1, 0, [])) k_L_law_539).trans rfl
theorem k_L_law_540 : zlk tb_L_law 540 = some (.aload_n 0, 1, 0, []) := kj_L_law_8 (by decide) rfl
theorem u_L_law_540 {d : Nat} {st : List zV} {h : zH} {l1 l2 l3 : Option zV} {x : (Option Nat)} : zX d tb_L_law 540 [some (.inr (.inr x)), l1, l2, l3] st h = zX d tb_L_law 541 [some (.inr (.inr x)), l1, l2, l3] (.inr (.inr x) :: st) h := (zX_unf (o := (.aload_n 0, 1, 0, [])) k_L_law_540).trans rfl
theorem k_L_law_541 : zlk tb_L_law 541 = some (.iload_n 3, 1, 0, []) := kj_L_law_8 (by decide) rfl
theorem u_L_law_541 {d : Nat} {st : List zV} {h : zH} {l0 l1 l2 : Option zV} {x : Int32} : zX d tb_L_law 541 [l0, l1, l2, some (.inl x)] st h = zX d tb_L_law 542 [l0, l1, l2, some (.inl x)] (.inl x :: st) h := (zX_unf (o := (.iload_n 3, 1, 0, [])) k_L_law_541).trans rfl
theorem k_L_law_542 : zlk tb_L_law 542 = some (.iconst 1, 1, 0, []) := kj_L_law_8 (by decide) rfl
theorem u_L_law_542 {d : Nat} {ls : zL} {st : List zV} {h : zH} : zX d tb_L_law 542 ls st h = zX d tb_L_law 543 ls (.inl 1 :: st) h := (zX_unf (o := (.iconst 1, 1, 0, [])) k_L_law_542).trans rfl
theorem k_L_law_543 : zlk tb_L_law 543 = some (.iadd, 1, 0, []) := kj_L_law_8 (by decide) rfl
theorem u_L_law_543 {d : Nat} {ls : zL} {st : List zV} {h : zH} {x y : Int32} : zX d tb_L_law 543 ls (.inl y :: .inl x :: st) h = zX d tb_L_law 544 ls (.inl (x + y) :: st) h := (zX_unf (o := (.iadd, 1, 0, [])) k_L_law_543).trans rfl
theorem k_L_law_544 : zlk tb_L_law 544 = some (.iaload, 1, 0, []) := kj_L_law_8 (by decide) rfl
theorem u_L_law_544 {d : Nat} {ls : zL} {st : List zV} {h : zH} {a : Nat} {i : Int32} : zX d tb_L_law 544 ls (.inl i :: .inr (.inr (some a)) :: st) h = if (zk h a).1 = 12 ∨ (zk h a).1 = 16 then (zix i (zk h a).2).bind fun j => zX d tb_L_law 545 ls (.inl (zi h a j) :: st) h else none := ux_ald k_L_law_544
theorem k_L_law_545 : zlk tb_L_law 545 = some (.invokevirtual 53, 3, 1, [(11, 122, 0, "", "")]) := kj_L_law_8 (by decide) rfl
theorem u_L_law_545 {d : Nat} {ls : zL} {h : zH} {a : Nat} {v0 : Int32} {r0 : zV} : zX d tb_L_law 545 ls [.inl v0, .inr (.inr (some a)), r0] h = if 11 = (zk h a).1 then (zcall (zP zM) d 122 [.inr (.inr (some a)), .inl v0] h).bind (fun q => zX d tb_L_law 548 ls (q.1.toList ++ [r0]) q.2) else none := (ux_callV (t := [(11, 122, 0, "", "")]) (as := [.inl v0]) (r := [r0]) k_L_law_545 (n := 1) rfl rfl rfl (Nat.le_of_ble_eq_true rfl)).trans (zfb_1 _ _)
theorem k_L_law_548 : zlk tb_L_law 548 = some (.if_icmp .eq 482, 3, 0, []) := kj_L_law_8 (by decide) rfl
theorem u_L_law_548 {d : Nat} {ls : zL} {st : List zV} {h : zH} {x y : Int32} : zX d tb_L_law 548 ls (.inl y :: .inl x :: st) h = if x = y then zX d tb_L_law 1030 ls st h else zX d tb_L_law 551 ls st h := ux_ic_eq k_L_law_548 (by decide)
theorem k_L_law_551 : zlk tb_L_law 551 = some (.iconst 0, 1, 0, []) := kj_L_law_8 (by decide) rfl
theorem u_L_law_551 {d : Nat} {ls : zL} {st : List zV} {h : zH} : zX d tb_L_law 551 ls st h = zX d tb_L_law 552 ls (.inl 0 :: st) h := (zX_unf (o := (.iconst 0, 1, 0, [])) k_L_law_551).trans rfl
theorem k_L_law_552 : zlk tb_L_law 552 = some (.ireturn, 1, 1, []) := kj_L_law_9 (by decide) rfl
theorem u_L_law_552 {d : Nat} {ls : zL} {h : zH} {v : Int32} : zX d tb_L_law 552 ls [.inl v] h = if v = 0 ∨ v = 1 then some (some (.inl v), h) else none := ux_zret k_L_law_552
theorem k_L_law_553 : zlk tb_L_law 553 = some (.aload_n 1, 1, 0, []) := kj_L_law_9 (by decide) rfl
theorem u_L_law_553 {d : Nat} {st : List zV} {h : zH} {l0 l2 l3 : Option zV} {x : (Option Nat)} : zX d tb_L_law 553 [l0, some (.inr (.inr x)), l2, l3] st h = zX d tb_L_law 554 [l0, some (.inr (.inr x)), l2, l3] (.inr (.inr x) :: st) h := (zX_unf (o := (.aload_n 1, 1, 0, [])) k_L_law_553).trans rfl
theorem k_L_law_554 : zlk tb_L_law 554 = some (.aload_n 0, 1, 0, []) := kj_L_law_9 (by decide) rfl
theorem u_L_law_554 {d : Nat} {st : List zV} {h : zH} {l1 l2 l3 : Option zV} {x : (Option Nat)} : zX d tb_L_law 554 [some (.inr (.inr x)), l1, l2, l3] st h = zX d tb_L_law 555 [some (.inr (.inr x)), l1, l2, l3] (.inr (.inr x) :: st) h := (zX_unf (o := (.aload_n 0, 1, 0, [])) k_L_law_554).trans rfl
theorem k_L_law_555 : zlk tb_L_law 555 = some (.iload_n 3, 1, 0, []) := kj_L_law_9 (by decide) rfl
theorem u_L_law_555 {d : Nat} {st : List zV} {h : zH} {l0 l1 l2 : Option zV} {x : Int32} : zX d tb_L_law 555 [l0, l1, l2, some (.inl x)] st h = zX d tb_L_law 556 [l0, l1, l2, some (.inl x)] (.inl x :: st) h := (zX_unf (o := (.iload_n 3, 1, 0, [])) k_L_law_555).trans rfl
theorem k_L_law_556 : zlk tb_L_law 556 = some (.iconst 1, 1, 0, []) := kj_L_law_9 (by decide) rfl
theorem u_L_law_556 {d : Nat} {ls : zL} {st : List zV} {h : zH} : zX d tb_L_law 556 ls st h = zX d tb_L_law 557 ls (.inl 1 :: st) h := (zX_unf (o := (.iconst 1, 1, 0, [])) k_L_law_556).trans rfl
theorem k_L_law_557 : zlk tb_L_law 557 = some (.iadd, 1, 0, []) := kj_L_law_9 (by decide) rfl
theorem u_L_law_557 {d : Nat} {ls : zL} {st : List zV} {h : zH} {x y : Int32} : zX d tb_L_law 557 ls (.inl y :: .inl x :: st) h = zX d tb_L_law 558 ls (.inl (x + y) :: st) h := (zX_unf (o := (.iadd, 1, 0, [])) k_L_law_557).trans rfl
theorem k_L_law_558 : zlk tb_L_law 558 = some (.iaload, 1, 0, []) := kj_L_law_9 (by decide) rfl
theorem u_L_law_558 {d : Nat} {ls : zL} {st : List zV} {h : zH} {a : Nat} {i : Int32} : zX d tb_L_law 558 ls (.inl i :: .inr (.inr (some a)) :: st) h = if (zk h a).1 = 12 ∨ (zk h a).1 = 16 then (zix i (zk h a).2).bind fun j => zX d tb_L_law 559 ls (.inl (zi h a j) :: st) h else none := ux_ald k_L_law_558
theorem k_L_law_559 : zlk tb_L_law 559 = some (.aload_n 0, 1, 0, []) := kj_L_law_9 (by decide) rfl
theorem u_L_law_559 {d : Nat} {st : List zV} {h : zH} {l1 l2 l3 : Option zV} {x : (Option Nat)} : zX d tb_L_law 559 [some (.inr (.inr x)), l1, l2, l3] st h = zX d tb_L_law 560 [some (.inr (.inr x)), l1, l2, l3] (.inr (.inr x) :: st) h := (zX_unf (o := (.aload_n 0, 1, 0, [])) k_L_law_559).trans rfl
theorem k_L_law_560 : zlk tb_L_law 560 = some (.iload_n 3, 1, 0, []) := kj_L_law_9 (by decide) rfl
theorem u_L_law_560 {d : Nat} {st : List zV} {h : zH} {l0 l1 l2 : Option zV} {x : Int32} : zX d tb_L_law 560 [l0, l1, l2, some (.inl x)] st h = zX d tb_L_law 561 [l0, l1, l2, some (.inl x)] (.inl x :: st) h := (zX_unf (o := (.iload_n 3, 1, 0, [])) k_L_law_560).trans rfl
theorem k_L_law_561 : zlk tb_L_law 561 = some (.iconst 2, 1, 0, []) := kj_L_law_9 (by decide) rfl
theorem u_L_law_561 {d : Nat} {ls : zL} {st : List zV} {h : zH} : zX d tb_L_law 561 ls st h = zX d tb_L_law 562 ls (.inl 2 :: st) h := (zX_unf (o := (.iconst 2, 1, 0, [])) k_L_law_561).trans rfl
theorem k_L_law_562 : zlk tb_L_law 562 = some (.iadd, 1, 0, []) := kj_L_law_9 (by decide) rfl
theorem u_L_law_562 {d : Nat} {ls : zL} {st : List zV} {h : zH} {x y : Int32} : zX d tb_L_law 562 ls (.inl y :: .inl x :: st) h = zX d tb_L_law 563 ls (.inl (x + y) :: st) h := (zX_unf (o := (.iadd, 1, 0, [])) k_L_law_562).trans rfl
theorem k_L_law_563 : zlk tb_L_law 563 = some (.iaload, 1, 0, []) := kj_L_law_9 (by decide) rfl
theorem u_L_law_563 {d : Nat} {ls : zL} {st : List zV} {h : zH} {a : Nat} {i : Int32} : zX d tb_L_law 563 ls (.inl i :: .inr (.inr (some a)) :: st) h = if (zk h a).1 = 12 ∨ (zk h a).1 = 16 then (zix i (zk h a).2).bind fun j => zX d tb_L_law 564 ls (.inl (zi h a j) :: st) h else none := ux_ald k_L_law_563
theorem k_L_law_564 : zlk tb_L_law 564 = some (.aload_n 0, 1, 0, []) := kj_L_law_9 (by decide) rfl
theorem u_L_law_564 {d : Nat} {st : List zV} {h : zH} {l1 l2 l3 : Option zV} {x : (Option Nat)} : zX d tb_L_law 564 [some (.inr (.inr x)), l1, l2, l3] st h = zX d tb_L_law 565 [some (.inr (.inr x)), l1, l2, l3] (.inr (.inr x) :: st) h := (zX_unf (o := (.aload_n 0, 1, 0, [])) k_L_law_564).trans rfl
theorem k_L_law_565 : zlk tb_L_law 565 = some (.iload_n 3, 1, 0, []) := kj_L_law_9 (by decide) rfl
theorem u_L_law_565 {d : Nat} {st : List zV} {h : zH} {l0 l1 l2 : Option zV} {x : Int32} : zX d tb_L_law 565 [l0, l1, l2, some (.inl x)] st h = zX d tb_L_law 566 [l0, l1, l2, some (.inl x)] (.inl x :: st) h := (zX_unf (o := (.iload_n 3, 1, 0, [])) k_L_law_565).trans rfl
theorem k_L_law_566 : zlk tb_L_law 566 = some (.iconst 3, 1, 0, []) := kj_L_law_9 (by decide) rfl
theorem u_L_law_566 {d : Nat} {ls : zL} {st : List zV} {h : zH} : zX d tb_L_law 566 ls st h = zX d tb_L_law 567 ls (.inl 3 :: st) h := (zX_unf (o := (.iconst 3, 1, 0, [])) k_L_law_566).trans rfl
theorem k_L_law_567 : zlk tb_L_law 567 = some (.iadd, 1, 0, []) := kj_L_law_9 (by decide) rfl
theorem u_L_law_567 {d : Nat} {ls : zL} {st : List zV} {h : zH} {x y : Int32} : zX d tb_L_law 567 ls (.inl y :: .inl x :: st) h = zX d tb_L_law 568 ls (.inl (x + y) :: st) h := (zX_unf (o := (.iadd, 1, 0, [])) k_L_law_567).trans rfl
theorem k_L_law_568 : zlk tb_L_law 568 = some (.iaload, 1, 0, []) := kj_L_law_9 (by decide) rfl
theorem u_L_law_568 {d : Nat} {ls : zL} {st : List zV} {h : zH} {a : Nat} {i : Int32} : zX d tb_L_law 568 ls (.inl i :: .inr (.inr (some a)) :: st) h = if (zk h a).1 = 12 ∨ (zk h a).1 = 16 then (zix i (zk h a).2).bind fun j => zX d tb_L_law 569 ls (.inl (zi h a j) :: st) h else none := ux_ald k_L_law_568
theorem k_L_law_569 : zlk tb_L_law 569 = some (.invokevirtual 54, 3, 3, [(10, 64, 0, "", "")]) := kj_L_law_9 (by decide) rfl
theorem u_L_law_569 {d : Nat} {ls : zL} {h : zH} {a : Nat} {v0 : Int32} {v1 : Int32} {v2 : Int32} : zX d tb_L_law 569 ls [.inl v2, .inl v1, .inl v0, .inr (.inr (some a))] h = if 10 = (zk h a).1 then (zcall (zP zM) d 64 [.inr (.inr (some a)), .inl v0, .inl v1, .inl v2] h).bind (fun q => zX d tb_L_law 572 ls (q.1.toList ++ []) q.2) else none := (ux_callV (t := [(10, 64, 0, "", "")]) (as := [.inl v0, .inl v1, .inl v2]) (r := []) k_L_law_569 (n := 3) rfl rfl rfl (Nat.le_of_ble_eq_true rfl)).trans (zfb_1 _ _)
theorem k_L_law_572 : zlk tb_L_law 572 = some (.aload_n 2, 1, 0, []) := kj_L_law_9 (by decide) rfl
theorem u_L_law_572 {d : Nat} {st : List zV} {h : zH} {l0 l1 l3 : Option zV} {x : (Option Nat)} : zX d tb_L_law 572 [l0, l1, some (.inr (.inr x)), l3] st h = zX d tb_L_law 573 [l0, l1, some (.inr (.inr x)), l3] (.inr (.inr x) :: st) h := (zX_unf (o := (.aload_n 2, 1, 0, [])) k_L_law_572).trans rfl
theorem k_L_law_573 : zlk tb_L_law 573 = some (.aload_n 0, 1, 0, []) := kj_L_law_9 (by decide) rfl
theorem u_L_law_573 {d : Nat} {st : List zV} {h : zH} {l1 l2 l3 : Option zV} {x : (Option Nat)} : zX d tb_L_law 573 [some (.inr (.inr x)), l1, l2, l3] st h = zX d tb_L_law 574 [some (.inr (.inr x)), l1, l2, l3] (.inr (.inr x) :: st) h := (zX_unf (o := (.aload_n 0, 1, 0, [])) k_L_law_573).trans rfl
theorem k_L_law_574 : zlk tb_L_law 574 = some (.iload_n 3, 1, 0, []) := kj_L_law_9 (by decide) rfl
theorem u_L_law_574 {d : Nat} {st : List zV} {h : zH} {l0 l1 l2 : Option zV} {x : Int32} : zX d tb_L_law 574 [l0, l1, l2, some (.inl x)] st h = zX d tb_L_law 575 [l0, l1, l2, some (.inl x)] (.inl x :: st) h := (zX_unf (o := (.iload_n 3, 1, 0, [])) k_L_law_574).trans rfl
theorem k_L_law_575 : zlk tb_L_law 575 = some (.iconst 1, 1, 0, []) := kj_L_law_9 (by decide) rfl
theorem u_L_law_575 {d : Nat} {ls : zL} {st : List zV} {h : zH} : zX d tb_L_law 575 ls st h = zX d tb_L_law 576 ls (.inl 1 :: st) h := (zX_unf (o := (.iconst 1, 1, 0, [])) k_L_law_575).trans rfl
theorem k_L_law_576 : zlk tb_L_law 576 = some (.iadd, 1, 0, []) := kj_L_law_9 (by decide) rfl
theorem u_L_law_576 {d : Nat} {ls : zL} {st : List zV} {h : zH} {x y : Int32} : zX d tb_L_law 576 ls (.inl y :: .inl x :: st) h = zX d tb_L_law 577 ls (.inl (x + y) :: st) h := (zX_unf (o := (.iadd, 1, 0, [])) k_L_law_576).trans rfl
theorem k_L_law_577 : zlk tb_L_law 577 = some (.iaload, 1, 0, []) := kj_L_law_9 (by decide) rfl
theorem u_L_law_577 {d : Nat} {ls : zL} {st : List zV} {h : zH} {a : Nat} {i : Int32} : zX d tb_L_law 577 ls (.inl i :: .inr (.inr (some a)) :: st) h = if (zk h a).1 = 12 ∨ (zk h a).1 = 16 then (zix i (zk h a).2).bind fun j => zX d tb_L_law 578 ls (.inl (zi h a j) :: st) h else none := ux_ald k_L_law_577
theorem k_L_law_578 : zlk tb_L_law 578 = some (.aload_n 0, 1, 0, []) := kj_L_law_9 (by decide) rfl
theorem u_L_law_578 {d : Nat} {st : List zV} {h : zH} {l1 l2 l3 : Option zV} {x : (Option Nat)} : zX d tb_L_law 578 [some (.inr (.inr x)), l1, l2, l3] st h = zX d tb_L_law 579 [some (.inr (.inr x)), l1, l2, l3] (.inr (.inr x) :: st) h := (zX_unf (o := (.aload_n 0, 1, 0, [])) k_L_law_578).trans rfl
theorem k_L_law_579 : zlk tb_L_law 579 = some (.iload_n 3, 1, 0, []) := kj_L_law_9 (by decide) rfl
theorem u_L_law_579 {d : Nat} {st : List zV} {h : zH} {l0 l1 l2 : Option zV} {x : Int32} : zX d tb_L_law 579 [l0, l1, l2, some (.inl x)] st h = zX d tb_L_law 580 [l0, l1, l2, some (.inl x)] (.inl x :: st) h := (zX_unf (o := (.iload_n 3, 1, 0, [])) k_L_law_579).trans rfl
theorem k_L_law_580 : zlk tb_L_law 580 = some (.iconst 2, 1, 0, []) := kj_L_law_9 (by decide) rfl
theorem u_L_law_580 {d : Nat} {ls : zL} {st : List zV} {h : zH} : zX d tb_L_law 580 ls st h = zX d tb_L_law 581 ls (.inl 2 :: st) h := (zX_unf (o := (.iconst 2, 1, 0, [])) k_L_law_580).trans rfl
theorem k_L_law_581 : zlk tb_L_law 581 = some (.iadd, 1, 0, []) := kj_L_law_9 (by decide) rfl
theorem u_L_law_581 {d : Nat} {ls : zL} {st : List zV} {h : zH} {x y : Int32} : zX d tb_L_law 581 ls (.inl y :: .inl x :: st) h = zX d tb_L_law 582 ls (.inl (x + y) :: st) h := (zX_unf (o := (.iadd, 1, 0, [])) k_L_law_581).trans rfl
theorem k_L_law_582 : zlk tb_L_law 582 = some (.iaload, 1, 0, []) := kj_L_law_9 (by decide) rfl
theorem u_L_law_582 {d : Nat} {ls : zL} {st : List zV} {h : zH} {a : Nat} {i : Int32} : zX d tb_L_law 582 ls (.inl i :: .inr (.inr (some a)) :: st) h = if (zk h a).1 = 12 ∨ (zk h a).1 = 16 then (zix i (zk h a).2).bind fun j => zX d tb_L_law 583 ls (.inl (zi h a j) :: st) h else none := ux_ald k_L_law_582
theorem k_L_law_583 : zlk tb_L_law 583 = some (.aload_n 0, 1, 0, []) := kj_L_law_9 (by decide) rfl
theorem u_L_law_583 {d : Nat} {st : List zV} {h : zH} {l1 l2 l3 : Option zV} {x : (Option Nat)} : zX d tb_L_law 583 [some (.inr (.inr x)), l1, l2, l3] st h = zX d tb_L_law 584 [some (.inr (.inr x)), l1, l2, l3] (.inr (.inr x) :: st) h := (zX_unf (o := (.aload_n 0, 1, 0, [])) k_L_law_583).trans rfl
theorem k_L_law_584 : zlk tb_L_law 584 = some (.iload_n 3, 1, 0, []) := kj_L_law_9 (by decide) rfl
theorem u_L_law_584 {d : Nat} {st : List zV} {h : zH} {l0 l1 l2 : Option zV} {x : Int32} : zX d tb_L_law 584 [l0, l1, l2, some (.inl x)] st h = zX d tb_L_law 585 [l0, l1, l2, some (.inl x)] (.inl x :: st) h := (zX_unf (o := (.iload_n 3, 1, 0, [])) k_L_law_584).trans rfl
theorem k_L_law_585 : zlk tb_L_law 585 = some (.iconst 3, 1, 0, []) := kj_L_law_9 (by decide) rfl
theorem u_L_law_585 {d : Nat} {ls : zL} {st : List zV} {h : zH} : zX d tb_L_law 585 ls st h = zX d tb_L_law 586 ls (.inl 3 :: st) h := (zX_unf (o := (.iconst 3, 1, 0, [])) k_L_law_585).trans rfl
theorem k_L_law_586 : zlk tb_L_law 586 = some (.iadd, 1, 0, []) := kj_L_law_9 (by decide) rfl
theorem u_L_law_586 {d : Nat} {ls : zL} {st : List zV} {h : zH} {x y : Int32} : zX d tb_L_law 586 ls (.inl y :: .inl x :: st) h = zX d tb_L_law 587 ls (.inl (x + y) :: st) h := (zX_unf (o := (.iadd, 1, 0, [])) k_L_law_586).trans rfl
theorem k_L_law_587 : zlk tb_L_law 587 = some (.iaload, 1, 0, []) := kj_L_law_9 (by decide) rfl
theorem u_L_law_587 {d : Nat} {ls : zL} {st : List zV} {h : zH} {a : Nat} {i : Int32} : zX d tb_L_law 587 ls (.inl i :: .inr (.inr (some a)) :: st) h = if (zk h a).1 = 12 ∨ (zk h a).1 = 16 then (zix i (zk h a).2).bind fun j => zX d tb_L_law 588 ls (.inl (zi h a j) :: st) h else none := ux_ald k_L_law_587
theorem k_L_law_588 : zlk tb_L_law 588 = some (.invokevirtual 58, 3, 3, [(11, 123, 0, "", "")]) := kj_L_law_9 (by decide) rfl
theorem u_L_law_588 {d : Nat} {ls : zL} {h : zH} {a : Nat} {v0 : Int32} {v1 : Int32} {v2 : Int32} {r0 : zV} : zX d tb_L_law 588 ls [.inl v2, .inl v1, .inl v0, .inr (.inr (some a)), r0] h = if 11 = (zk h a).1 then (zcall (zP zM) d 123 [.inr (.inr (some a)), .inl v0, .inl v1, .inl v2] h).bind (fun q => zX d tb_L_law 591 ls (q.1.toList ++ [r0]) q.2) else none := (ux_callV (t := [(11, 123, 0, "", "")]) (as := [.inl v0, .inl v1, .inl v2]) (r := [r0]) k_L_law_588 (n := 3) rfl rfl rfl (Nat.le_of_ble_eq_true rfl)).trans (zfb_1 _ _)
theorem k_L_law_591 : zlk tb_L_law 591 = some (.lcmp, 1, 0, []) := kj_L_law_9 (by decide) rfl
theorem u_L_law_591 {d : Nat} {ls : zL} {st : List zV} {h : zH} {x y : Int64} : zX d tb_L_law 591 ls (.inr (.inl y) :: .inr (.inl x) :: st) h = zX d tb_L_law 592 ls (.inl (lg_cmp x y) :: st) h := (zX_unf (o := (.lcmp, 1, 0, [])) k_L_law_591).trans rfl
theorem k_L_law_592 : zlk tb_L_law 592 = some (.ifCond .eq 438, 3, 0, []) := kj_L_law_9 (by decide) rfl
theorem u_L_law_592 {d : Nat} {ls : zL} {st : List zV} {h : zH} {x : Int32} : zX d tb_L_law 592 ls (.inl x :: st) h = if x = 0 then zX d tb_L_law 1030 ls st h else zX d tb_L_law 595 ls st h := ux_if_eq k_L_law_592 (by decide)
theorem k_L_law_595 : zlk tb_L_law 595 = some (.iconst 0, 1, 0, []) := kj_L_law_9 (by decide) rfl
theorem u_L_law_595 {d : Nat} {ls : zL} {st : List zV} {h : zH} : zX d tb_L_law 595 ls st h = zX d tb_L_law 596 ls (.inl 0 :: st) h := (zX_unf (o := (.iconst 0, 1, 0, [])) k_L_law_595).trans rfl
theorem k_L_law_596 : zlk tb_L_law 596 = some (.ireturn, 1, 1, []) := kj_L_law_9 (by decide) rfl
theorem u_L_law_596 {d : Nat} {ls : zL} {h : zH} {v : Int32} : zX d tb_L_law 596 ls [.inl v] h = if v = 0 ∨ v = 1 then some (some (.inl v), h) else none := ux_zret k_L_law_596
theorem k_L_law_597 : zlk tb_L_law 597 = some (.aload_n 1, 1, 0, []) := kj_L_law_9 (by decide) rfl
theorem u_L_law_597 {d : Nat} {st : List zV} {h : zH} {l0 l2 l3 : Option zV} {x : (Option Nat)} : zX d tb_L_law 597 [l0, some (.inr (.inr x)), l2, l3] st h = zX d tb_L_law 598 [l0, some (.inr (.inr x)), l2, l3] (.inr (.inr x) :: st) h := (zX_unf (o := (.aload_n 1, 1, 0, [])) k_L_law_597).trans rfl
theorem k_L_law_598 : zlk tb_L_law 598 = some (.aload_n 0, 1, 0, []) := kj_L_law_10 (by decide) rfl
theorem u_L_law_598 {d : Nat} {st : List zV} {h : zH} {l1 l2 l3 : Option zV} {x : (Option Nat)} : zX d tb_L_law 598 [some (.inr (.inr x)), l1, l2, l3] st h = zX d tb_L_law 599 [some (.inr (.inr x)), l1, l2, l3] (.inr (.inr x) :: st) h := (zX_unf (o := (.aload_n 0, 1, 0, [])) k_L_law_598).trans rfl
theorem k_L_law_599 : zlk tb_L_law 599 = some (.iload_n 3, 1, 0, []) := kj_L_law_10 (by decide) rfl
theorem u_L_law_599 {d : Nat} {st : List zV} {h : zH} {l0 l1 l2 : Option zV} {x : Int32} : zX d tb_L_law 599 [l0, l1, l2, some (.inl x)] st h = zX d tb_L_law 600 [l0, l1, l2, some (.inl x)] (.inl x :: st) h := (zX_unf (o := (.iload_n 3, 1, 0, [])) k_L_law_599).trans rfl
theorem k_L_law_600 : zlk tb_L_law 600 = some (.iconst 1, 1, 0, []) := kj_L_law_10 (by decide) rfl
theorem u_L_law_600 {d : Nat} {ls : zL} {st : List zV} {h : zH} : zX d tb_L_law 600 ls st h = zX d tb_L_law 601 ls (.inl 1 :: st) h := (zX_unf (o := (.iconst 1, 1, 0, [])) k_L_law_600).trans rfl
theorem k_L_law_601 : zlk tb_L_law 601 = some (.iadd, 1, 0, []) := kj_L_law_10 (by decide) rfl
theorem u_L_law_601 {d : Nat} {ls : zL} {st : List zV} {h : zH} {x y : Int32} : zX d tb_L_law 601 ls (.inl y :: .inl x :: st) h = zX d tb_L_law 602 ls (.inl (x + y) :: st) h := (zX_unf (o := (.iadd, 1, 0, [])) k_L_law_601).trans rfl
theorem k_L_law_602 : zlk tb_L_law 602 = some (.iaload, 1, 0, []) := kj_L_law_10 (by decide) rfl
theorem u_L_law_602 {d : Nat} {ls : zL} {st : List zV} {h : zH} {a : Nat} {i : Int32} : zX d tb_L_law 602 ls (.inl i :: .inr (.inr (some a)) :: st) h = if (zk h a).1 = 12 ∨ (zk h a).1 = 16 then (zix i (zk h a).2).bind fun j => zX d tb_L_law 603 ls (.inl (zi h a j) :: st) h else none := ux_ald k_L_law_602
theorem k_L_law_603 : zlk tb_L_law 603 = some (.aload_n 0, 1, 0, []) := kj_L_law_10 (by decide) rfl
theorem u_L_law_603 {d : Nat} {st : List zV} {h : zH} {l1 l2 l3 : Option zV} {x : (Option Nat)} : zX d tb_L_law 603 [some (.inr (.inr x)), l1, l2, l3] st h = zX d tb_L_law 604 [some (.inr (.inr x)), l1, l2, l3] (.inr (.inr x) :: st) h := (zX_unf (o := (.aload_n 0, 1, 0, [])) k_L_law_603).trans rfl
theorem k_L_law_604 : zlk tb_L_law 604 = some (.iload_n 3, 1, 0, []) := kj_L_law_10 (by decide) rfl
theorem u_L_law_604 {d : Nat} {st : List zV} {h : zH} {l0 l1 l2 : Option zV} {x : Int32} : zX d tb_L_law 604 [l0, l1, l2, some (.inl x)] st h = zX d tb_L_law 605 [l0, l1, l2, some (.inl x)] (.inl x :: st) h := (zX_unf (o := (.iload_n 3, 1, 0, [])) k_L_law_604).trans rfl
theorem k_L_law_605 : zlk tb_L_law 605 = some (.iconst 2, 1, 0, []) := kj_L_law_10 (by decide) rfl
theorem u_L_law_605 {d : Nat} {ls : zL} {st : List zV} {h : zH} : zX d tb_L_law 605 ls st h = zX d tb_L_law 606 ls (.inl 2 :: st) h := (zX_unf (o := (.iconst 2, 1, 0, [])) k_L_law_605).trans rfl
theorem k_L_law_606 : zlk tb_L_law 606 = some (.iadd, 1, 0, []) := kj_L_law_10 (by decide) rfl
theorem u_L_law_606 {d : Nat} {ls : zL} {st : List zV} {h : zH} {x y : Int32} : zX d tb_L_law 606 ls (.inl y :: .inl x :: st) h = zX d tb_L_law 607 ls (.inl (x + y) :: st) h := (zX_unf (o := (.iadd, 1, 0, [])) k_L_law_606).trans rfl
theorem k_L_law_607 : zlk tb_L_law 607 = some (.iaload, 1, 0, []) := kj_L_law_10 (by decide) rfl
theorem u_L_law_607 {d : Nat} {ls : zL} {st : List zV} {h : zH} {a : Nat} {i : Int32} : zX d tb_L_law 607 ls (.inl i :: .inr (.inr (some a)) :: st) h = if (zk h a).1 = 12 ∨ (zk h a).1 = 16 then (zix i (zk h a).2).bind fun j => zX d tb_L_law 608 ls (.inl (zi h a j) :: st) h else none := ux_ald k_L_law_607
theorem k_L_law_608 : zlk tb_L_law 608 = some (.aload_n 0, 1, 0, []) := kj_L_law_10 (by decide) rfl
theorem u_L_law_608 {d : Nat} {st : List zV} {h : zH} {l1 l2 l3 : Option zV} {x : (Option Nat)} : zX d tb_L_law 608 [some (.inr (.inr x)), l1, l2, l3] st h = zX d tb_L_law 609 [some (.inr (.inr x)), l1, l2, l3] (.inr (.inr x) :: st) h := (zX_unf (o := (.aload_n 0, 1, 0, [])) k_L_law_608).trans rfl
theorem k_L_law_609 : zlk tb_L_law 609 = some (.iload_n 3, 1, 0, []) := kj_L_law_10 (by decide) rfl
theorem u_L_law_609 {d : Nat} {st : List zV} {h : zH} {l0 l1 l2 : Option zV} {x : Int32} : zX d tb_L_law 609 [l0, l1, l2, some (.inl x)] st h = zX d tb_L_law 610 [l0, l1, l2, some (.inl x)] (.inl x :: st) h := (zX_unf (o := (.iload_n 3, 1, 0, [])) k_L_law_609).trans rfl
theorem k_L_law_610 : zlk tb_L_law 610 = some (.iconst 3, 1, 0, []) := kj_L_law_10 (by decide) rfl
theorem u_L_law_610 {d : Nat} {ls : zL} {st : List zV} {h : zH} : zX d tb_L_law 610 ls st h = zX d tb_L_law 611 ls (.inl 3 :: st) h := (zX_unf (o := (.iconst 3, 1, 0, [])) k_L_law_610).trans rfl
theorem k_L_law_611 : zlk tb_L_law 611 = some (.iadd, 1, 0, []) := kj_L_law_10 (by decide) rfl
theorem u_L_law_611 {d : Nat} {ls : zL} {st : List zV} {h : zH} {x y : Int32} : zX d tb_L_law 611 ls (.inl y :: .inl x :: st) h = zX d tb_L_law 612 ls (.inl (x + y) :: st) h := (zX_unf (o := (.iadd, 1, 0, [])) k_L_law_611).trans rfl
theorem k_L_law_612 : zlk tb_L_law 612 = some (.iaload, 1, 0, []) := kj_L_law_10 (by decide) rfl
theorem u_L_law_612 {d : Nat} {ls : zL} {st : List zV} {h : zH} {a : Nat} {i : Int32} : zX d tb_L_law 612 ls (.inl i :: .inr (.inr (some a)) :: st) h = if (zk h a).1 = 12 ∨ (zk h a).1 = 16 then (zix i (zk h a).2).bind fun j => zX d tb_L_law 613 ls (.inl (zi h a j) :: st) h else none := ux_ald k_L_law_612
theorem k_L_law_613 : zlk tb_L_law 613 = some (.invokevirtual 59, 3, 3, [(10, 65, 0, "", "")]) := kj_L_law_10 (by decide) rfl
theorem u_L_law_613 {d : Nat} {ls : zL} {h : zH} {a : Nat} {v0 : Int32} {v1 : Int32} {v2 : Int32} : zX d tb_L_law 613 ls [.inl v2, .inl v1, .inl v0, .inr (.inr (some a))] h = if 10 = (zk h a).1 then (zcall (zP zM) d 65 [.inr (.inr (some a)), .inl v0, .inl v1, .inl v2] h).bind (fun q => zX d tb_L_law 616 ls (q.1.toList ++ []) q.2) else none := (ux_callV (t := [(10, 65, 0, "", "")]) (as := [.inl v0, .inl v1, .inl v2]) (r := []) k_L_law_613 (n := 3) rfl rfl rfl (Nat.le_of_ble_eq_true rfl)).trans (zfb_1 _ _)
theorem k_L_law_616 : zlk tb_L_law 616 = some (.aload_n 2, 1, 0, []) := kj_L_law_10 (by decide) rfl
theorem u_L_law_616 {d : Nat} {st : List zV} {h : zH} {l0 l1 l3 : Option zV} {x : (Option Nat)} : zX d tb_L_law 616 [l0, l1, some (.inr (.inr x)), l3] st h = zX d tb_L_law 617 [l0, l1, some (.inr (.inr x)), l3] (.inr (.inr x) :: st) h := (zX_unf (o := (.aload_n 2, 1, 0, [])) k_L_law_616).trans rfl
theorem k_L_law_617 : zlk tb_L_law 617 = some (.aload_n 0, 1, 0, []) := kj_L_law_10 (by decide) rfl
theorem u_L_law_617 {d : Nat} {st : List zV} {h : zH} {l1 l2 l3 : Option zV} {x : (Option Nat)} : zX d tb_L_law 617 [some (.inr (.inr x)), l1, l2, l3] st h = zX d tb_L_law 618 [some (.inr (.inr x)), l1, l2, l3] (.inr (.inr x) :: st) h := (zX_unf (o := (.aload_n 0, 1, 0, [])) k_L_law_617).trans rfl
theorem k_L_law_618 : zlk tb_L_law 618 = some (.iload_n 3, 1, 0, []) := kj_L_law_10 (by decide) rfl
theorem u_L_law_618 {d : Nat} {st : List zV} {h : zH} {l0 l1 l2 : Option zV} {x : Int32} : zX d tb_L_law 618 [l0, l1, l2, some (.inl x)] st h = zX d tb_L_law 619 [l0, l1, l2, some (.inl x)] (.inl x :: st) h := (zX_unf (o := (.iload_n 3, 1, 0, [])) k_L_law_618).trans rfl
theorem k_L_law_619 : zlk tb_L_law 619 = some (.iconst 1, 1, 0, []) := kj_L_law_10 (by decide) rfl
theorem u_L_law_619 {d : Nat} {ls : zL} {st : List zV} {h : zH} : zX d tb_L_law 619 ls st h = zX d tb_L_law 620 ls (.inl 1 :: st) h := (zX_unf (o := (.iconst 1, 1, 0, [])) k_L_law_619).trans rfl
theorem k_L_law_620 : zlk tb_L_law 620 = some (.iadd, 1, 0, []) := kj_L_law_10 (by decide) rfl
theorem u_L_law_620 {d : Nat} {ls : zL} {st : List zV} {h : zH} {x y : Int32} : zX d tb_L_law 620 ls (.inl y :: .inl x :: st) h = zX d tb_L_law 621 ls (.inl (x + y) :: st) h := (zX_unf (o := (.iadd, 1, 0, [])) k_L_law_620).trans rfl
theorem k_L_law_621 : zlk tb_L_law 621 = some (.iaload, 1, 0, []) := kj_L_law_10 (by decide) rfl
theorem u_L_law_621 {d : Nat} {ls : zL} {st : List zV} {h : zH} {a : Nat} {i : Int32} : zX d tb_L_law 621 ls (.inl i :: .inr (.inr (some a)) :: st) h = if (zk h a).1 = 12 ∨ (zk h a).1 = 16 then (zix i (zk h a).2).bind fun j => zX d tb_L_law 622 ls (.inl (zi h a j) :: st) h else none := ux_ald k_L_law_621
theorem k_L_law_622 : zlk tb_L_law 622 = some (.aload_n 0, 1, 0, []) := kj_L_law_10 (by decide) rfl
theorem u_L_law_622 {d : Nat} {st : List zV} {h : zH} {l1 l2 l3 : Option zV} {x : (Option Nat)} : zX d tb_L_law 622 [some (.inr (.inr x)), l1, l2, l3] st h = zX d tb_L_law 623 [some (.inr (.inr x)), l1, l2, l3] (.inr (.inr x) :: st) h := (zX_unf (o := (.aload_n 0, 1, 0, [])) k_L_law_622).trans rfl
theorem k_L_law_623 : zlk tb_L_law 623 = some (.iload_n 3, 1, 0, []) := kj_L_law_10 (by decide) rfl
theorem u_L_law_623 {d : Nat} {st : List zV} {h : zH} {l0 l1 l2 : Option zV} {x : Int32} : zX d tb_L_law 623 [l0, l1, l2, some (.inl x)] st h = zX d tb_L_law 624 [l0, l1, l2, some (.inl x)] (.inl x :: st) h := (zX_unf (o := (.iload_n 3, 1, 0, [])) k_L_law_623).trans rfl
theorem k_L_law_624 : zlk tb_L_law 624 = some (.iconst 2, 1, 0, []) := kj_L_law_10 (by decide) rfl
theorem u_L_law_624 {d : Nat} {ls : zL} {st : List zV} {h : zH} : zX d tb_L_law 624 ls st h = zX d tb_L_law 625 ls (.inl 2 :: st) h := (zX_unf (o := (.iconst 2, 1, 0, [])) k_L_law_624).trans rfl
theorem k_L_law_625 : zlk tb_L_law 625 = some (.iadd, 1, 0, []) := kj_L_law_10 (by decide) rfl
theorem u_L_law_625 {d : Nat} {ls : zL} {st : List zV} {h : zH} {x y : Int32} : zX d tb_L_law 625 ls (.inl y :: .inl x :: st) h = zX d tb_L_law 626 ls (.inl (x + y) :: st) h := (zX_unf (o := (.iadd, 1, 0, [])) k_L_law_625).trans rfl
theorem k_L_law_626 : zlk tb_L_law 626 = some (.iaload, 1, 0, []) := kj_L_law_10 (by decide) rfl
theorem u_L_law_626 {d : Nat} {ls : zL} {st : List zV} {h : zH} {a : Nat} {i : Int32} : zX d tb_L_law 626 ls (.inl i :: .inr (.inr (some a)) :: st) h = if (zk h a).1 = 12 ∨ (zk h a).1 = 16 then (zix i (zk h a).2).bind fun j => zX d tb_L_law 627 ls (.inl (zi h a j) :: st) h else none := ux_ald k_L_law_626
theorem k_L_law_627 : zlk tb_L_law 627 = some (.aload_n 0, 1, 0, []) := kj_L_law_10 (by decide) rfl
theorem u_L_law_627 {d : Nat} {st : List zV} {h : zH} {l1 l2 l3 : Option zV} {x : (Option Nat)} : zX d tb_L_law 627 [some (.inr (.inr x)), l1, l2, l3] st h = zX d tb_L_law 628 [some (.inr (.inr x)), l1, l2, l3] (.inr (.inr x) :: st) h := (zX_unf (o := (.aload_n 0, 1, 0, [])) k_L_law_627).trans rfl
theorem k_L_law_628 : zlk tb_L_law 628 = some (.iload_n 3, 1, 0, []) := kj_L_law_10 (by decide) rfl
theorem u_L_law_628 {d : Nat} {st : List zV} {h : zH} {l0 l1 l2 : Option zV} {x : Int32} : zX d tb_L_law 628 [l0, l1, l2, some (.inl x)] st h = zX d tb_L_law 629 [l0, l1, l2, some (.inl x)] (.inl x :: st) h := (zX_unf (o := (.iload_n 3, 1, 0, [])) k_L_law_628).trans rfl
theorem k_L_law_629 : zlk tb_L_law 629 = some (.iconst 3, 1, 0, []) := kj_L_law_10 (by decide) rfl
theorem u_L_law_629 {d : Nat} {ls : zL} {st : List zV} {h : zH} : zX d tb_L_law 629 ls st h = zX d tb_L_law 630 ls (.inl 3 :: st) h := (zX_unf (o := (.iconst 3, 1, 0, [])) k_L_law_629).trans rfl
theorem k_L_law_630 : zlk tb_L_law 630 = some (.iadd, 1, 0, []) := kj_L_law_10 (by decide) rfl
theorem u_L_law_630 {d : Nat} {ls : zL} {st : List zV} {h : zH} {x y : Int32} : zX d tb_L_law 630 ls (.inl y :: .inl x :: st) h = zX d tb_L_law 631 ls (.inl (x + y) :: st) h := (zX_unf (o := (.iadd, 1, 0, [])) k_L_law_630).trans rfl
theorem k_L_law_631 : zlk tb_L_law 631 = some (.iaload, 1, 0, []) := kj_L_law_10 (by decide) rfl
theorem u_L_law_631 {d : Nat} {ls : zL} {st : List zV} {h : zH} {a : Nat} {i : Int32} : zX d tb_L_law 631 ls (.inl i :: .inr (.inr (some a)) :: st) h = if (zk h a).1 = 12 ∨ (zk h a).1 = 16 then (zix i (zk h a).2).bind fun j => zX d tb_L_law 632 ls (.inl (zi h a j) :: st) h else none := ux_ald k_L_law_631
theorem k_L_law_632 : zlk tb_L_law 632 = some (.invokevirtual 63, 3, 3, [(11, 124, 0, "", "")]) := kj_L_law_10 (by decide) rfl
theorem u_L_law_632 {d : Nat} {ls : zL} {h : zH} {a : Nat} {v0 : Int32} {v1 : Int32} {v2 : Int32} {r0 : zV} : zX d tb_L_law 632 ls [.inl v2, .inl v1, .inl v0, .inr (.inr (some a)), r0] h = if 11 = (zk h a).1 then (zcall (zP zM) d 124 [.inr (.inr (some a)), .inl v0, .inl v1, .inl v2] h).bind (fun q => zX d tb_L_law 635 ls (q.1.toList ++ [r0]) q.2) else none := (ux_callV (t := [(11, 124, 0, "", "")]) (as := [.inl v0, .inl v1, .inl v2]) (r := [r0]) k_L_law_632 (n := 3) rfl rfl rfl (Nat.le_of_ble_eq_true rfl)).trans (zfb_1 _ _)
theorem k_L_law_635 : zlk tb_L_law 635 = some (.if_icmp .eq 395, 3, 0, []) := kj_L_law_10 (by decide) rfl
theorem u_L_law_635 {d : Nat} {ls : zL} {st : List zV} {h : zH} {x y : Int32} : zX d tb_L_law 635 ls (.inl y :: .inl x :: st) h = if x = y then zX d tb_L_law 1030 ls st h else zX d tb_L_law 638 ls st h := ux_ic_eq k_L_law_635 (by decide)
theorem k_L_law_638 : zlk tb_L_law 638 = some (.iconst 0, 1, 0, []) := kj_L_law_10 (by decide) rfl
theorem u_L_law_638 {d : Nat} {ls : zL} {st : List zV} {h : zH} : zX d tb_L_law 638 ls st h = zX d tb_L_law 639 ls (.inl 0 :: st) h := (zX_unf (o := (.iconst 0, 1, 0, [])) k_L_law_638).trans rfl
theorem k_L_law_639 : zlk tb_L_law 639 = some (.ireturn, 1, 1, []) := kj_L_law_10 (by decide) rfl
theorem u_L_law_639 {d : Nat} {ls : zL} {h : zH} {v : Int32} : zX d tb_L_law 639 ls [.inl v] h = if v = 0 ∨ v = 1 then some (some (.inl v), h) else none := ux_zret k_L_law_639
theorem k_L_law_640 : zlk tb_L_law 640 = some (.aload_n 1, 1, 0, []) := kj_L_law_10 (by decide) rfl
theorem u_L_law_640 {d : Nat} {st : List zV} {h : zH} {l0 l2 l3 : Option zV} {x : (Option Nat)} : zX d tb_L_law 640 [l0, some (.inr (.inr x)), l2, l3] st h = zX d tb_L_law 641 [l0, some (.inr (.inr x)), l2, l3] (.inr (.inr x) :: st) h := (zX_unf (o := (.aload_n 1, 1, 0, [])) k_L_law_640).trans rfl
theorem k_L_law_641 : zlk tb_L_law 641 = some (.aload_n 0, 1, 0, []) := kj_L_law_10 (by decide) rfl
theorem u_L_law_641 {d : Nat} {st : List zV} {h : zH} {l1 l2 l3 : Option zV} {x : (Option Nat)} : zX d tb_L_law 641 [some (.inr (.inr x)), l1, l2, l3] st h = zX d tb_L_law 642 [some (.inr (.inr x)), l1, l2, l3] (.inr (.inr x) :: st) h := (zX_unf (o := (.aload_n 0, 1, 0, [])) k_L_law_641).trans rfl
theorem k_L_law_642 : zlk tb_L_law 642 = some (.iload_n 3, 1, 0, []) := kj_L_law_10 (by decide) rfl
theorem u_L_law_642 {d : Nat} {st : List zV} {h : zH} {l0 l1 l2 : Option zV} {x : Int32} : zX d tb_L_law 642 [l0, l1, l2, some (.inl x)] st h = zX d tb_L_law 643 [l0, l1, l2, some (.inl x)] (.inl x :: st) h := (zX_unf (o := (.iload_n 3, 1, 0, [])) k_L_law_642).trans rfl
theorem k_L_law_643 : zlk tb_L_law 643 = some (.iconst 1, 1, 0, []) := kj_L_law_10 (by decide) rfl
theorem u_L_law_643 {d : Nat} {ls : zL} {st : List zV} {h : zH} : zX d tb_L_law 643 ls st h = zX d tb_L_law 644 ls (.inl 1 :: st) h := (zX_unf (o := (.iconst 1, 1, 0, [])) k_L_law_643).trans rfl
theorem k_L_law_644 : zlk tb_L_law 644 = some (.iadd, 1, 0, []) := kj_L_law_11 (by decide) rfl
theorem u_L_law_644 {d : Nat} {ls : zL} {st : List zV} {h : zH} {x y : Int32} : zX d tb_L_law 644 ls (.inl y :: .inl x :: st) h = zX d tb_L_law 645 ls (.inl (x + y) :: st) h := (zX_unf (o := (.iadd, 1, 0, [])) k_L_law_644).trans rfl
theorem k_L_law_645 : zlk tb_L_law 645 = some (.iaload, 1, 0, []) := kj_L_law_11 (by decide) rfl
theorem u_L_law_645 {d : Nat} {ls : zL} {st : List zV} {h : zH} {a : Nat} {i : Int32} : zX d tb_L_law 645 ls (.inl i :: .inr (.inr (some a)) :: st) h = if (zk h a).1 = 12 ∨ (zk h a).1 = 16 then (zix i (zk h a).2).bind fun j => zX d tb_L_law 646 ls (.inl (zi h a j) :: st) h else none := ux_ald k_L_law_645
theorem k_L_law_646 : zlk tb_L_law 646 = some (.invokevirtual 64, 3, 1, [(10, 66, 0, "", "")]) := kj_L_law_11 (by decide) rfl
theorem u_L_law_646 {d : Nat} {ls : zL} {h : zH} {a : Nat} {v0 : Int32} : zX d tb_L_law 646 ls [.inl v0, .inr (.inr (some a))] h = if 10 = (zk h a).1 then (zcall (zP zM) d 66 [.inr (.inr (some a)), .inl v0] h).bind (fun q => zX d tb_L_law 649 ls (q.1.toList ++ []) q.2) else none := (ux_callV (t := [(10, 66, 0, "", "")]) (as := [.inl v0]) (r := []) k_L_law_646 (n := 1) rfl rfl rfl (Nat.le_of_ble_eq_true rfl)).trans (zfb_1 _ _)
theorem k_L_law_649 : zlk tb_L_law 649 = some (.aload_n 2, 1, 0, []) := kj_L_law_11 (by decide) rfl
theorem u_L_law_649 {d : Nat} {st : List zV} {h : zH} {l0 l1 l3 : Option zV} {x : (Option Nat)} : zX d tb_L_law 649 [l0, l1, some (.inr (.inr x)), l3] st h = zX d tb_L_law 650 [l0, l1, some (.inr (.inr x)), l3] (.inr (.inr x) :: st) h := (zX_unf (o := (.aload_n 2, 1, 0, [])) k_L_law_649).trans rfl
theorem k_L_law_650 : zlk tb_L_law 650 = some (.aload_n 0, 1, 0, []) := kj_L_law_11 (by decide) rfl
theorem u_L_law_650 {d : Nat} {st : List zV} {h : zH} {l1 l2 l3 : Option zV} {x : (Option Nat)} : zX d tb_L_law 650 [some (.inr (.inr x)), l1, l2, l3] st h = zX d tb_L_law 651 [some (.inr (.inr x)), l1, l2, l3] (.inr (.inr x) :: st) h := (zX_unf (o := (.aload_n 0, 1, 0, [])) k_L_law_650).trans rfl
theorem k_L_law_651 : zlk tb_L_law 651 = some (.iload_n 3, 1, 0, []) := kj_L_law_11 (by decide) rfl
theorem u_L_law_651 {d : Nat} {st : List zV} {h : zH} {l0 l1 l2 : Option zV} {x : Int32} : zX d tb_L_law 651 [l0, l1, l2, some (.inl x)] st h = zX d tb_L_law 652 [l0, l1, l2, some (.inl x)] (.inl x :: st) h := (zX_unf (o := (.iload_n 3, 1, 0, [])) k_L_law_651).trans rfl
theorem k_L_law_652 : zlk tb_L_law 652 = some (.iconst 1, 1, 0, []) := kj_L_law_11 (by decide) rfl
theorem u_L_law_652 {d : Nat} {ls : zL} {st : List zV} {h : zH} : zX d tb_L_law 652 ls st h = zX d tb_L_law 653 ls (.inl 1 :: st) h := (zX_unf (o := (.iconst 1, 1, 0, [])) k_L_law_652).trans rfl
theorem k_L_law_653 : zlk tb_L_law 653 = some (.iadd, 1, 0, []) := kj_L_law_11 (by decide) rfl
theorem u_L_law_653 {d : Nat} {ls : zL} {st : List zV} {h : zH} {x y : Int32} : zX d tb_L_law 653 ls (.inl y :: .inl x :: st) h = zX d tb_L_law 654 ls (.inl (x + y) :: st) h := (zX_unf (o := (.iadd, 1, 0, [])) k_L_law_653).trans rfl
theorem k_L_law_654 : zlk tb_L_law 654 = some (.iaload, 1, 0, []) := kj_L_law_11 (by decide) rfl
theorem u_L_law_654 {d : Nat} {ls : zL} {st : List zV} {h : zH} {a : Nat} {i : Int32} : zX d tb_L_law 654 ls (.inl i :: .inr (.inr (some a)) :: st) h = if (zk h a).1 = 12 ∨ (zk h a).1 = 16 then (zix i (zk h a).2).bind fun j => zX d tb_L_law 655 ls (.inl (zi h a j) :: st) h else none := ux_ald k_L_law_654
theorem k_L_law_655 : zlk tb_L_law 655 = some (.invokevirtual 67, 3, 1, [(11, 125, 0, "", "")]) := kj_L_law_11 (by decide) rfl
theorem u_L_law_655 {d : Nat} {ls : zL} {h : zH} {a : Nat} {v0 : Int32} {r0 : zV} : zX d tb_L_law 655 ls [.inl v0, .inr (.inr (some a)), r0] h = if 11 = (zk h a).1 then (zcall (zP zM) d 125 [.inr (.inr (some a)), .inl v0] h).bind (fun q => zX d tb_L_law 658 ls (q.1.toList ++ [r0]) q.2) else none := (ux_callV (t := [(11, 125, 0, "", "")]) (as := [.inl v0]) (r := [r0]) k_L_law_655 (n := 1) rfl rfl rfl (Nat.le_of_ble_eq_true rfl)).trans (zfb_1 _ _)
theorem k_L_law_658 : zlk tb_L_law 658 = some (.if_icmp .eq 372, 3, 0, []) := kj_L_law_11 (by decide) rfl
theorem u_L_law_658 {d : Nat} {ls : zL} {st : List zV} {h : zH} {x y : Int32} : zX d tb_L_law 658 ls (.inl y :: .inl x :: st) h = if x = y then zX d tb_L_law 1030 ls st h else zX d tb_L_law 661 ls st h := ux_ic_eq k_L_law_658 (by decide)
theorem k_L_law_661 : zlk tb_L_law 661 = some (.iconst 0, 1, 0, []) := kj_L_law_11 (by decide) rfl
theorem u_L_law_661 {d : Nat} {ls : zL} {st : List zV} {h : zH} : zX d tb_L_law 661 ls st h = zX d tb_L_law 662 ls (.inl 0 :: st) h := (zX_unf (o := (.iconst 0, 1, 0, [])) k_L_law_661).trans rfl
theorem k_L_law_662 : zlk tb_L_law 662 = some (.ireturn, 1, 1, []) := kj_L_law_11 (by decide) rfl
theorem u_L_law_662 {d : Nat} {ls : zL} {h : zH} {v : Int32} : zX d tb_L_law 662 ls [.inl v] h = if v = 0 ∨ v = 1 then some (some (.inl v), h) else none := ux_zret k_L_law_662
theorem k_L_law_663 : zlk tb_L_law 663 = some (.aload_n 1, 1, 0, []) := kj_L_law_11 (by decide) rfl
theorem u_L_law_663 {d : Nat} {st : List zV} {h : zH} {l0 l2 l3 : Option zV} {x : (Option Nat)} : zX d tb_L_law 663 [l0, some (.inr (.inr x)), l2, l3] st h = zX d tb_L_law 664 [l0, some (.inr (.inr x)), l2, l3] (.inr (.inr x) :: st) h := (zX_unf (o := (.aload_n 1, 1, 0, [])) k_L_law_663).trans rfl
theorem k_L_law_664 : zlk tb_L_law 664 = some (.aload_n 0, 1, 0, []) := kj_L_law_11 (by decide) rfl
theorem u_L_law_664 {d : Nat} {st : List zV} {h : zH} {l1 l2 l3 : Option zV} {x : (Option Nat)} : zX d tb_L_law 664 [some (.inr (.inr x)), l1, l2, l3] st h = zX d tb_L_law 665 [some (.inr (.inr x)), l1, l2, l3] (.inr (.inr x) :: st) h := (zX_unf (o := (.aload_n 0, 1, 0, [])) k_L_law_664).trans rfl
theorem k_L_law_665 : zlk tb_L_law 665 = some (.iload_n 3, 1, 0, []) := kj_L_law_11 (by decide) rfl
theorem u_L_law_665 {d : Nat} {st : List zV} {h : zH} {l0 l1 l2 : Option zV} {x : Int32} : zX d tb_L_law 665 [l0, l1, l2, some (.inl x)] st h = zX d tb_L_law 666 [l0, l1, l2, some (.inl x)] (.inl x :: st) h := (zX_unf (o := (.iload_n 3, 1, 0, [])) k_L_law_665).trans rfl
theorem k_L_law_666 : zlk tb_L_law 666 = some (.iconst 1, 1, 0, []) := kj_L_law_11 (by decide) rfl
theorem u_L_law_666 {d : Nat} {ls : zL} {st : List zV} {h : zH} : zX d tb_L_law 666 ls st h = zX d tb_L_law 667 ls (.inl 1 :: st) h := (zX_unf (o := (.iconst 1, 1, 0, [])) k_L_law_666).trans rfl
theorem k_L_law_667 : zlk tb_L_law 667 = some (.iadd, 1, 0, []) := kj_L_law_11 (by decide) rfl
theorem u_L_law_667 {d : Nat} {ls : zL} {st : List zV} {h : zH} {x y : Int32} : zX d tb_L_law 667 ls (.inl y :: .inl x :: st) h = zX d tb_L_law 668 ls (.inl (x + y) :: st) h := (zX_unf (o := (.iadd, 1, 0, [])) k_L_law_667).trans rfl
theorem k_L_law_668 : zlk tb_L_law 668 = some (.iaload, 1, 0, []) := kj_L_law_11 (by decide) rfl
theorem u_L_law_668 {d : Nat} {ls : zL} {st : List zV} {h : zH} {a : Nat} {i : Int32} : zX d tb_L_law 668 ls (.inl i :: .inr (.inr (some a)) :: st) h = if (zk h a).1 = 12 ∨ (zk h a).1 = 16 then (zix i (zk h a).2).bind fun j => zX d tb_L_law 669 ls (.inl (zi h a j) :: st) h else none := ux_ald k_L_law_668
theorem k_L_law_669 : zlk tb_L_law 669 = some (.invokevirtual 68, 3, 1, [(10, 67, 0, "", "")]) := kj_L_law_11 (by decide) rfl
theorem u_L_law_669 {d : Nat} {ls : zL} {h : zH} {a : Nat} {v0 : Int32} : zX d tb_L_law 669 ls [.inl v0, .inr (.inr (some a))] h = if 10 = (zk h a).1 then (zcall (zP zM) d 67 [.inr (.inr (some a)), .inl v0] h).bind (fun q => zX d tb_L_law 672 ls (q.1.toList ++ []) q.2) else none := (ux_callV (t := [(10, 67, 0, "", "")]) (as := [.inl v0]) (r := []) k_L_law_669 (n := 1) rfl rfl rfl (Nat.le_of_ble_eq_true rfl)).trans (zfb_1 _ _)
theorem k_L_law_672 : zlk tb_L_law 672 = some (.aload_n 2, 1, 0, []) := kj_L_law_11 (by decide) rfl
theorem u_L_law_672 {d : Nat} {st : List zV} {h : zH} {l0 l1 l3 : Option zV} {x : (Option Nat)} : zX d tb_L_law 672 [l0, l1, some (.inr (.inr x)), l3] st h = zX d tb_L_law 673 [l0, l1, some (.inr (.inr x)), l3] (.inr (.inr x) :: st) h := (zX_unf (o := (.aload_n 2, 1, 0, [])) k_L_law_672).trans rfl
theorem k_L_law_673 : zlk tb_L_law 673 = some (.aload_n 0, 1, 0, []) := kj_L_law_11 (by decide) rfl
theorem u_L_law_673 {d : Nat} {st : List zV} {h : zH} {l1 l2 l3 : Option zV} {x : (Option Nat)} : zX d tb_L_law 673 [some (.inr (.inr x)), l1, l2, l3] st h = zX d tb_L_law 674 [some (.inr (.inr x)), l1, l2, l3] (.inr (.inr x) :: st) h := (zX_unf (o := (.aload_n 0, 1, 0, [])) k_L_law_673).trans rfl
theorem k_L_law_674 : zlk tb_L_law 674 = some (.iload_n 3, 1, 0, []) := kj_L_law_11 (by decide) rfl
theorem u_L_law_674 {d : Nat} {st : List zV} {h : zH} {l0 l1 l2 : Option zV} {x : Int32} : zX d tb_L_law 674 [l0, l1, l2, some (.inl x)] st h = zX d tb_L_law 675 [l0, l1, l2, some (.inl x)] (.inl x :: st) h := (zX_unf (o := (.iload_n 3, 1, 0, [])) k_L_law_674).trans rfl
theorem k_L_law_675 : zlk tb_L_law 675 = some (.iconst 1, 1, 0, []) := kj_L_law_11 (by decide) rfl
theorem u_L_law_675 {d : Nat} {ls : zL} {st : List zV} {h : zH} : zX d tb_L_law 675 ls st h = zX d tb_L_law 676 ls (.inl 1 :: st) h := (zX_unf (o := (.iconst 1, 1, 0, [])) k_L_law_675).trans rfl
theorem k_L_law_676 : zlk tb_L_law 676 = some (.iadd, 1, 0, []) := kj_L_law_11 (by decide) rfl
theorem u_L_law_676 {d : Nat} {ls : zL} {st : List zV} {h : zH} {x y : Int32} : zX d tb_L_law 676 ls (.inl y :: .inl x :: st) h = zX d tb_L_law 677 ls (.inl (x + y) :: st) h := (zX_unf (o := (.iadd, 1, 0, [])) k_L_law_676).trans rfl
theorem k_L_law_677 : zlk tb_L_law 677 = some (.iaload, 1, 0, []) := kj_L_law_11 (by decide) rfl
theorem u_L_law_677 {d : Nat} {ls : zL} {st : List zV} {h : zH} {a : Nat} {i : Int32} : zX d tb_L_law 677 ls (.inl i :: .inr (.inr (some a)) :: st) h = if (zk h a).1 = 12 ∨ (zk h a).1 = 16 then (zix i (zk h a).2).bind fun j => zX d tb_L_law 678 ls (.inl (zi h a j) :: st) h else none := ux_ald k_L_law_677
theorem k_L_law_678 : zlk tb_L_law 678 = some (.invokevirtual 71, 3, 1, [(11, 127, 0, "", "")]) := kj_L_law_11 (by decide) rfl
theorem u_L_law_678 {d : Nat} {ls : zL} {h : zH} {a : Nat} {v0 : Int32} {r0 : zV} : zX d tb_L_law 678 ls [.inl v0, .inr (.inr (some a)), r0] h = if 11 = (zk h a).1 then (zcall (zP zM) d 127 [.inr (.inr (some a)), .inl v0] h).bind (fun q => zX d tb_L_law 681 ls (q.1.toList ++ [r0]) q.2) else none := (ux_callV (t := [(11, 127, 0, "", "")]) (as := [.inl v0]) (r := [r0]) k_L_law_678 (n := 1) rfl rfl rfl (Nat.le_of_ble_eq_true rfl)).trans (zfb_1 _ _)
theorem k_L_law_681 : zlk tb_L_law 681 = some (.if_icmp .eq 349, 3, 0, []) := kj_L_law_11 (by decide) rfl
theorem u_L_law_681 {d : Nat} {ls : zL} {st : List zV} {h : zH} {x y : Int32} : zX d tb_L_law 681 ls (.inl y :: .inl x :: st) h = if x = y then zX d tb_L_law 1030 ls st h else zX d tb_L_law 684 ls st h := ux_ic_eq k_L_law_681 (by decide)
theorem k_L_law_684 : zlk tb_L_law 684 = some (.iconst 0, 1, 0, []) := kj_L_law_11 (by decide) rfl
theorem u_L_law_684 {d : Nat} {ls : zL} {st : List zV} {h : zH} : zX d tb_L_law 684 ls st h = zX d tb_L_law 685 ls (.inl 0 :: st) h := (zX_unf (o := (.iconst 0, 1, 0, [])) k_L_law_684).trans rfl
theorem k_L_law_685 : zlk tb_L_law 685 = some (.ireturn, 1, 1, []) := kj_L_law_11 (by decide) rfl
theorem u_L_law_685 {d : Nat} {ls : zL} {h : zH} {v : Int32} : zX d tb_L_law 685 ls [.inl v] h = if v = 0 ∨ v = 1 then some (some (.inl v), h) else none := ux_zret k_L_law_685
theorem k_L_law_686 : zlk tb_L_law 686 = some (.aload_n 1, 1, 0, []) := kj_L_law_11 (by decide) rfl
theorem u_L_law_686 {d : Nat} {st : List zV} {h : zH} {l0 l2 l3 : Option zV} {x : (Option Nat)} : zX d tb_L_law 686 [l0, some (.inr (.inr x)), l2, l3] st h = zX d tb_L_law 687 [l0, some (.inr (.inr x)), l2, l3] (.inr (.inr x) :: st) h := (zX_unf (o := (.aload_n 1, 1, 0, [])) k_L_law_686).trans rfl
theorem k_L_law_687 : zlk tb_L_law 687 = some (.aload_n 0, 1, 0, []) := kj_L_law_11 (by decide) rfl
theorem u_L_law_687 {d : Nat} {st : List zV} {h : zH} {l1 l2 l3 : Option zV} {x : (Option Nat)} : zX d tb_L_law 687 [some (.inr (.inr x)), l1, l2, l3] st h = zX d tb_L_law 688 [some (.inr (.inr x)), l1, l2, l3] (.inr (.inr x) :: st) h := (zX_unf (o := (.aload_n 0, 1, 0, [])) k_L_law_687).trans rfl
theorem k_L_law_688 : zlk tb_L_law 688 = some (.iload_n 3, 1, 0, []) := kj_L_law_11 (by decide) rfl
theorem u_L_law_688 {d : Nat} {st : List zV} {h : zH} {l0 l1 l2 : Option zV} {x : Int32} : zX d tb_L_law 688 [l0, l1, l2, some (.inl x)] st h = zX d tb_L_law 689 [l0, l1, l2, some (.inl x)] (.inl x :: st) h := (zX_unf (o := (.iload_n 3, 1, 0, [])) k_L_law_688).trans rfl
theorem k_L_law_689 : zlk tb_L_law 689 = some (.iconst 1, 1, 0, []) := kj_L_law_11 (by decide) rfl
theorem u_L_law_689 {d : Nat} {ls : zL} {st : List zV} {h : zH} : zX d tb_L_law 689 ls st h = zX d tb_L_law 690 ls (.inl 1 :: st) h := (zX_unf (o := (.iconst 1, 1, 0, [])) k_L_law_689).trans rfl
theorem k_L_law_690 : zlk tb_L_law 690 = some (.iadd, 1, 0, []) := kj_L_law_11 (by decide) rfl
theorem u_L_law_690 {d : Nat} {ls : zL} {st : List zV} {h : zH} {x y : Int32} : zX d tb_L_law 690 ls (.inl y :: .inl x :: st) h = zX d tb_L_law 691 ls (.inl (x + y) :: st) h := (zX_unf (o := (.iadd, 1, 0, [])) k_L_law_690).trans rfl
theorem k_L_law_691 : zlk tb_L_law 691 = some (.iaload, 1, 0, []) := kj_L_law_11 (by decide) rfl
theorem u_L_law_691 {d : Nat} {ls : zL} {st : List zV} {h : zH} {a : Nat} {i : Int32} : zX d tb_L_law 691 ls (.inl i :: .inr (.inr (some a)) :: st) h = if (zk h a).1 = 12 ∨ (zk h a).1 = 16 then (zix i (zk h a).2).bind fun j => zX d tb_L_law 692 ls (.inl (zi h a j) :: st) h else none := ux_ald k_L_law_691
theorem k_L_law_692 : zlk tb_L_law 692 = some (.aload_n 0, 1, 0, []) := kj_L_law_11 (by decide) rfl
theorem u_L_law_692 {d : Nat} {st : List zV} {h : zH} {l1 l2 l3 : Option zV} {x : (Option Nat)} : zX d tb_L_law 692 [some (.inr (.inr x)), l1, l2, l3] st h = zX d tb_L_law 693 [some (.inr (.inr x)), l1, l2, l3] (.inr (.inr x) :: st) h := (zX_unf (o := (.aload_n 0, 1, 0, [])) k_L_law_692).trans rfl
theorem k_L_law_693 : zlk tb_L_law 693 = some (.iload_n 3, 1, 0, []) := kj_L_law_11 (by decide) rfl
theorem u_L_law_693 {d : Nat} {st : List zV} {h : zH} {l0 l1 l2 : Option zV} {x : Int32} : zX d tb_L_law 693 [l0, l1, l2, some (.inl x)] st h = zX d tb_L_law 694 [l0, l1, l2, some (.inl x)] (.inl x :: st) h := (zX_unf (o := (.iload_n 3, 1, 0, [])) k_L_law_693).trans rfl
theorem k_L_law_694 : zlk tb_L_law 694 = some (.iconst 2, 1, 0, []) := kj_L_law_11 (by decide) rfl
theorem u_L_law_694 {d : Nat} {ls : zL} {st : List zV} {h : zH} : zX d tb_L_law 694 ls st h = zX d tb_L_law 695 ls (.inl 2 :: st) h := (zX_unf (o := (.iconst 2, 1, 0, [])) k_L_law_694).trans rfl
theorem k_L_law_695 : zlk tb_L_law 695 = some (.iadd, 1, 0, []) := kj_L_law_11 (by decide) rfl
theorem u_L_law_695 {d : Nat} {ls : zL} {st : List zV} {h : zH} {x y : Int32} : zX d tb_L_law 695 ls (.inl y :: .inl x :: st) h = zX d tb_L_law 696 ls (.inl (x + y) :: st) h := (zX_unf (o := (.iadd, 1, 0, [])) k_L_law_695).trans rfl
theorem k_L_law_696 : zlk tb_L_law 696 = some (.iaload, 1, 0, []) := kj_L_law_12 (by decide) rfl
theorem u_L_law_696 {d : Nat} {ls : zL} {st : List zV} {h : zH} {a : Nat} {i : Int32} : zX d tb_L_law 696 ls (.inl i :: .inr (.inr (some a)) :: st) h = if (zk h a).1 = 12 ∨ (zk h a).1 = 16 then (zix i (zk h a).2).bind fun j => zX d tb_L_law 697 ls (.inl (zi h a j) :: st) h else none := ux_ald k_L_law_696
theorem k_L_law_697 : zlk tb_L_law 697 = some (.aload_n 0, 1, 0, []) := kj_L_law_12 (by decide) rfl
theorem u_L_law_697 {d : Nat} {st : List zV} {h : zH} {l1 l2 l3 : Option zV} {x : (Option Nat)} : zX d tb_L_law 697 [some (.inr (.inr x)), l1, l2, l3] st h = zX d tb_L_law 698 [some (.inr (.inr x)), l1, l2, l3] (.inr (.inr x) :: st) h := (zX_unf (o := (.aload_n 0, 1, 0, [])) k_L_law_697).trans rfl
theorem k_L_law_698 : zlk tb_L_law 698 = some (.iload_n 3, 1, 0, []) := kj_L_law_12 (by decide) rfl
theorem u_L_law_698 {d : Nat} {st : List zV} {h : zH} {l0 l1 l2 : Option zV} {x : Int32} : zX d tb_L_law 698 [l0, l1, l2, some (.inl x)] st h = zX d tb_L_law 699 [l0, l1, l2, some (.inl x)] (.inl x :: st) h := (zX_unf (o := (.iload_n 3, 1, 0, [])) k_L_law_698).trans rfl
theorem k_L_law_699 : zlk tb_L_law 699 = some (.iconst 3, 1, 0, []) := kj_L_law_12 (by decide) rfl
theorem u_L_law_699 {d : Nat} {ls : zL} {st : List zV} {h : zH} : zX d tb_L_law 699 ls st h = zX d tb_L_law 700 ls (.inl 3 :: st) h := (zX_unf (o := (.iconst 3, 1, 0, [])) k_L_law_699).trans rfl
theorem k_L_law_700 : zlk tb_L_law 700 = some (.iadd, 1, 0, []) := kj_L_law_12 (by decide) rfl
theorem u_L_law_700 {d : Nat} {ls : zL} {st : List zV} {h : zH} {x y : Int32} : zX d tb_L_law 700 ls (.inl y :: .inl x :: st) h = zX d tb_L_law 701 ls (.inl (x + y) :: st) h := (zX_unf (o := (.iadd, 1, 0, [])) k_L_law_700).trans rfl
theorem k_L_law_701 : zlk tb_L_law 701 = some (.iaload, 1, 0, []) := kj_L_law_12 (by decide) rfl
theorem u_L_law_701 {d : Nat} {ls : zL} {st : List zV} {h : zH} {a : Nat} {i : Int32} : zX d tb_L_law 701 ls (.inl i :: .inr (.inr (some a)) :: st) h = if (zk h a).1 = 12 ∨ (zk h a).1 = 16 then (zix i (zk h a).2).bind fun j => zX d tb_L_law 702 ls (.inl (zi h a j) :: st) h else none := ux_ald k_L_law_701
theorem k_L_law_702 : zlk tb_L_law 702 = some (.invokevirtual 72, 3, 3, [(10, 69, 0, "", "")]) := kj_L_law_12 (by decide) rfl
theorem u_L_law_702 {d : Nat} {ls : zL} {h : zH} {a : Nat} {v0 : Int32} {v1 : Int32} {v2 : Int32} : zX d tb_L_law 702 ls [.inl v2, .inl v1, .inl v0, .inr (.inr (some a))] h = if 10 = (zk h a).1 then (zcall (zP zM) d 69 [.inr (.inr (some a)), .inl v0, .inl v1, .inl v2] h).bind (fun q => zX d tb_L_law 705 ls (q.1.toList ++ []) q.2) else none := (ux_callV (t := [(10, 69, 0, "", "")]) (as := [.inl v0, .inl v1, .inl v2]) (r := []) k_L_law_702 (n := 3) rfl rfl rfl (Nat.le_of_ble_eq_true rfl)).trans (zfb_1 _ _)
theorem k_L_law_705 : zlk tb_L_law 705 = some (.aload_n 2, 1, 0, []) := kj_L_law_12 (by decide) rfl
theorem u_L_law_705 {d : Nat} {st : List zV} {h : zH} {l0 l1 l3 : Option zV} {x : (Option Nat)} : zX d tb_L_law 705 [l0, l1, some (.inr (.inr x)), l3] st h = zX d tb_L_law 706 [l0, l1, some (.inr (.inr x)), l3] (.inr (.inr x) :: st) h := (zX_unf (o := (.aload_n 2, 1, 0, [])) k_L_law_705).trans rfl
theorem k_L_law_706 : zlk tb_L_law 706 = some (.aload_n 0, 1, 0, []) := kj_L_law_12 (by decide) rfl
theorem u_L_law_706 {d : Nat} {st : List zV} {h : zH} {l1 l2 l3 : Option zV} {x : (Option Nat)} : zX d tb_L_law 706 [some (.inr (.inr x)), l1, l2, l3] st h = zX d tb_L_law 707 [some (.inr (.inr x)), l1, l2, l3] (.inr (.inr x) :: st) h := (zX_unf (o := (.aload_n 0, 1, 0, [])) k_L_law_706).trans rfl
theorem k_L_law_707 : zlk tb_L_law 707 = some (.iload_n 3, 1, 0, []) := kj_L_law_12 (by decide) rfl
theorem u_L_law_707 {d : Nat} {st : List zV} {h : zH} {l0 l1 l2 : Option zV} {x : Int32} : zX d tb_L_law 707 [l0, l1, l2, some (.inl x)] st h = zX d tb_L_law 708 [l0, l1, l2, some (.inl x)] (.inl x :: st) h := (zX_unf (o := (.iload_n 3, 1, 0, [])) k_L_law_707).trans rfl
theorem k_L_law_708 : zlk tb_L_law 708 = some (.iconst 1, 1, 0, []) := kj_L_law_12 (by decide) rfl
theorem u_L_law_708 {d : Nat} {ls : zL} {st : List zV} {h : zH} : zX d tb_L_law 708 ls st h = zX d tb_L_law 709 ls (.inl 1 :: st) h := (zX_unf (o := (.iconst 1, 1, 0, [])) k_L_law_708).trans rfl
theorem k_L_law_709 : zlk tb_L_law 709 = some (.iadd, 1, 0, []) := kj_L_law_12 (by decide) rfl
theorem u_L_law_709 {d : Nat} {ls : zL} {st : List zV} {h : zH} {x y : Int32} : zX d tb_L_law 709 ls (.inl y :: .inl x :: st) h = zX d tb_L_law 710 ls (.inl (x + y) :: st) h := (zX_unf (o := (.iadd, 1, 0, [])) k_L_law_709).trans rfl
theorem k_L_law_710 : zlk tb_L_law 710 = some (.iaload, 1, 0, []) := kj_L_law_12 (by decide) rfl
theorem u_L_law_710 {d : Nat} {ls : zL} {st : List zV} {h : zH} {a : Nat} {i : Int32} : zX d tb_L_law 710 ls (.inl i :: .inr (.inr (some a)) :: st) h = if (zk h a).1 = 12 ∨ (zk h a).1 = 16 then (zix i (zk h a).2).bind fun j => zX d tb_L_law 711 ls (.inl (zi h a j) :: st) h else none := ux_ald k_L_law_710
theorem k_L_law_711 : zlk tb_L_law 711 = some (.aload_n 0, 1, 0, []) := kj_L_law_12 (by decide) rfl
theorem u_L_law_711 {d : Nat} {st : List zV} {h : zH} {l1 l2 l3 : Option zV} {x : (Option Nat)} : zX d tb_L_law 711 [some (.inr (.inr x)), l1, l2, l3] st h = zX d tb_L_law 712 [some (.inr (.inr x)), l1, l2, l3] (.inr (.inr x) :: st) h := (zX_unf (o := (.aload_n 0, 1, 0, [])) k_L_law_711).trans rfl
theorem k_L_law_712 : zlk tb_L_law 712 = some (.iload_n 3, 1, 0, []) := kj_L_law_12 (by decide) rfl
theorem u_L_law_712 {d : Nat} {st : List zV} {h : zH} {l0 l1 l2 : Option zV} {x : Int32} : zX d tb_L_law 712 [l0, l1, l2, some (.inl x)] st h = zX d tb_L_law 713 [l0, l1, l2, some (.inl x)] (.inl x :: st) h := (zX_unf (o := (.iload_n 3, 1, 0, [])) k_L_law_712).trans rfl
theorem k_L_law_713 : zlk tb_L_law 713 = some (.iconst 2, 1, 0, []) := kj_L_law_12 (by decide) rfl
theorem u_L_law_713 {d : Nat} {ls : zL} {st : List zV} {h : zH} : zX d tb_L_law 713 ls st h = zX d tb_L_law 714 ls (.inl 2 :: st) h := (zX_unf (o := (.iconst 2, 1, 0, [])) k_L_law_713).trans rfl
theorem k_L_law_714 : zlk tb_L_law 714 = some (.iadd, 1, 0, []) := kj_L_law_12 (by decide) rfl
theorem u_L_law_714 {d : Nat} {ls : zL} {st : List zV} {h : zH} {x y : Int32} : zX d tb_L_law 714 ls (.inl y :: .inl x :: st) h = zX d tb_L_law 715 ls (.inl (x + y) :: st) h := (zX_unf (o := (.iadd, 1, 0, [])) k_L_law_714).trans rfl
theorem k_L_law_715 : zlk tb_L_law 715 = some (.iaload, 1, 0, []) := kj_L_law_12 (by decide) rfl
theorem u_L_law_715 {d : Nat} {ls : zL} {st : List zV} {h : zH} {a : Nat} {i : Int32} : zX d tb_L_law 715 ls (.inl i :: .inr (.inr (some a)) :: st) h = if (zk h a).1 = 12 ∨ (zk h a).1 = 16 then (zix i (zk h a).2).bind fun j => zX d tb_L_law 716 ls (.inl (zi h a j) :: st) h else none := ux_ald k_L_law_715
theorem k_L_law_716 : zlk tb_L_law 716 = some (.aload_n 0, 1, 0, []) := kj_L_law_12 (by decide) rfl
theorem u_L_law_716 {d : Nat} {st : List zV} {h : zH} {l1 l2 l3 : Option zV} {x : (Option Nat)} : zX d tb_L_law 716 [some (.inr (.inr x)), l1, l2, l3] st h = zX d tb_L_law 717 [some (.inr (.inr x)), l1, l2, l3] (.inr (.inr x) :: st) h := (zX_unf (o := (.aload_n 0, 1, 0, [])) k_L_law_716).trans rfl
theorem k_L_law_717 : zlk tb_L_law 717 = some (.iload_n 3, 1, 0, []) := kj_L_law_12 (by decide) rfl
theorem u_L_law_717 {d : Nat} {st : List zV} {h : zH} {l0 l1 l2 : Option zV} {x : Int32} : zX d tb_L_law 717 [l0, l1, l2, some (.inl x)] st h = zX d tb_L_law 718 [l0, l1, l2, some (.inl x)] (.inl x :: st) h := (zX_unf (o := (.iload_n 3, 1, 0, [])) k_L_law_717).trans rfl
theorem k_L_law_718 : zlk tb_L_law 718 = some (.iconst 3, 1, 0, []) := kj_L_law_12 (by decide) rfl
theorem u_L_law_718 {d : Nat} {ls : zL} {st : List zV} {h : zH} : zX d tb_L_law 718 ls st h = zX d tb_L_law 719 ls (.inl 3 :: st) h := (zX_unf (o := (.iconst 3, 1, 0, [])) k_L_law_718).trans rfl
theorem k_L_law_719 : zlk tb_L_law 719 = some (.iadd, 1, 0, []) := kj_L_law_12 (by decide) rfl
theorem u_L_law_719 {d : Nat} {ls : zL} {st : List zV} {h : zH} {x y : Int32} : zX d tb_L_law 719 ls (.inl y :: .inl x :: st) h = zX d tb_L_law 720 ls (.inl (x + y) :: st) h := (zX_unf (o := (.iadd, 1, 0, [])) k_L_law_719).trans rfl
theorem k_L_law_720 : zlk tb_L_law 720 = some (.iaload, 1, 0, []) := kj_L_law_12 (by decide) rfl
theorem u_L_law_720 {d : Nat} {ls : zL} {st : List zV} {h : zH} {a : Nat} {i : Int32} : zX d tb_L_law 720 ls (.inl i :: .inr (.inr (some a)) :: st) h = if (zk h a).1 = 12 ∨ (zk h a).1 = 16 then (zix i (zk h a).2).bind fun j => zX d tb_L_law 721 ls (.inl (zi h a j) :: st) h else none := ux_ald k_L_law_720
theorem k_L_law_721 : zlk tb_L_law 721 = some (.invokevirtual 75, 3, 3, [(11, 129, 0, "", "")]) := kj_L_law_12 (by decide) rfl
theorem u_L_law_721 {d : Nat} {ls : zL} {h : zH} {a : Nat} {v0 : Int32} {v1 : Int32} {v2 : Int32} {r0 : zV} : zX d tb_L_law 721 ls [.inl v2, .inl v1, .inl v0, .inr (.inr (some a)), r0] h = if 11 = (zk h a).1 then (zcall (zP zM) d 129 [.inr (.inr (some a)), .inl v0, .inl v1, .inl v2] h).bind (fun q => zX d tb_L_law 724 ls (q.1.toList ++ [r0]) q.2) else none := (ux_callV (t := [(11, 129, 0, "", "")]) (as := [.inl v0, .inl v1, .inl v2]) (r := [r0]) k_L_law_721 (n := 3) rfl rfl rfl (Nat.le_of_ble_eq_true rfl)).trans (zfb_1 _ _)
theorem k_L_law_724 : zlk tb_L_law 724 = some (.if_icmp .eq 306, 3, 0, []) := kj_L_law_12 (by decide) rfl
theorem u_L_law_724 {d : Nat} {ls : zL} {st : List zV} {h : zH} {x y : Int32} : zX d tb_L_law 724 ls (.inl y :: .inl x :: st) h = if x = y then zX d tb_L_law 1030 ls st h else zX d tb_L_law 727 ls st h := ux_ic_eq k_L_law_724 (by decide)
theorem k_L_law_727 : zlk tb_L_law 727 = some (.iconst 0, 1, 0, []) := kj_L_law_12 (by decide) rfl
theorem u_L_law_727 {d : Nat} {ls : zL} {st : List zV} {h : zH} : zX d tb_L_law 727 ls st h = zX d tb_L_law 728 ls (.inl 0 :: st) h := (zX_unf (o := (.iconst 0, 1, 0, [])) k_L_law_727).trans rfl
theorem k_L_law_728 : zlk tb_L_law 728 = some (.ireturn, 1, 1, []) := kj_L_law_12 (by decide) rfl
theorem u_L_law_728 {d : Nat} {ls : zL} {h : zH} {v : Int32} : zX d tb_L_law 728 ls [.inl v] h = if v = 0 ∨ v = 1 then some (some (.inl v), h) else none := ux_zret k_L_law_728
theorem k_L_law_729 : zlk tb_L_law 729 = some (.aload_n 1, 1, 0, []) := kj_L_law_12 (by decide) rfl
theorem u_L_law_729 {d : Nat} {st : List zV} {h : zH} {l0 l2 l3 : Option zV} {x : (Option Nat)} : zX d tb_L_law 729 [l0, some (.inr (.inr x)), l2, l3] st h = zX d tb_L_law 730 [l0, some (.inr (.inr x)), l2, l3] (.inr (.inr x) :: st) h := (zX_unf (o := (.aload_n 1, 1, 0, [])) k_L_law_729).trans rfl
theorem k_L_law_730 : zlk tb_L_law 730 = some (.aload_n 0, 1, 0, []) := kj_L_law_12 (by decide) rfl
theorem u_L_law_730 {d : Nat} {st : List zV} {h : zH} {l1 l2 l3 : Option zV} {x : (Option Nat)} : zX d tb_L_law 730 [some (.inr (.inr x)), l1, l2, l3] st h = zX d tb_L_law 731 [some (.inr (.inr x)), l1, l2, l3] (.inr (.inr x) :: st) h := (zX_unf (o := (.aload_n 0, 1, 0, [])) k_L_law_730).trans rfl
theorem k_L_law_731 : zlk tb_L_law 731 = some (.iload_n 3, 1, 0, []) := kj_L_law_12 (by decide) rfl
theorem u_L_law_731 {d : Nat} {st : List zV} {h : zH} {l0 l1 l2 : Option zV} {x : Int32} : zX d tb_L_law 731 [l0, l1, l2, some (.inl x)] st h = zX d tb_L_law 732 [l0, l1, l2, some (.inl x)] (.inl x :: st) h := (zX_unf (o := (.iload_n 3, 1, 0, [])) k_L_law_731).trans rfl
theorem k_L_law_732 : zlk tb_L_law 732 = some (.iconst 1, 1, 0, []) := kj_L_law_12 (by decide) rfl
theorem u_L_law_732 {d : Nat} {ls : zL} {st : List zV} {h : zH} : zX d tb_L_law 732 ls st h = zX d tb_L_law 733 ls (.inl 1 :: st) h := (zX_unf (o := (.iconst 1, 1, 0, [])) k_L_law_732).trans rfl
theorem k_L_law_733 : zlk tb_L_law 733 = some (.iadd, 1, 0, []) := kj_L_law_12 (by decide) rfl
theorem u_L_law_733 {d : Nat} {ls : zL} {st : List zV} {h : zH} {x y : Int32} : zX d tb_L_law 733 ls (.inl y :: .inl x :: st) h = zX d tb_L_law 734 ls (.inl (x + y) :: st) h := (zX_unf (o := (.iadd, 1, 0, [])) k_L_law_733).trans rfl
theorem k_L_law_734 : zlk tb_L_law 734 = some (.iaload, 1, 0, []) := kj_L_law_12 (by decide) rfl
theorem u_L_law_734 {d : Nat} {ls : zL} {st : List zV} {h : zH} {a : Nat} {i : Int32} : zX d tb_L_law 734 ls (.inl i :: .inr (.inr (some a)) :: st) h = if (zk h a).1 = 12 ∨ (zk h a).1 = 16 then (zix i (zk h a).2).bind fun j => zX d tb_L_law 735 ls (.inl (zi h a j) :: st) h else none := ux_ald k_L_law_734
theorem k_L_law_735 : zlk tb_L_law 735 = some (.invokevirtual 76, 3, 1, [(10, 70, 0, "", "")]) := kj_L_law_12 (by decide) rfl
theorem u_L_law_735 {d : Nat} {ls : zL} {h : zH} {a : Nat} {v0 : Int32} : zX d tb_L_law 735 ls [.inl v0, .inr (.inr (some a))] h = if 10 = (zk h a).1 then (zcall (zP zM) d 70 [.inr (.inr (some a)), .inl v0] h).bind (fun q => zX d tb_L_law 738 ls (q.1.toList ++ []) q.2) else none := (ux_callV (t := [(10, 70, 0, "", "")]) (as := [.inl v0]) (r := []) k_L_law_735 (n := 1) rfl rfl rfl (Nat.le_of_ble_eq_true rfl)).trans (zfb_1 _ _)
theorem k_L_law_738 : zlk tb_L_law 738 = some (.aload_n 2, 1, 0, []) := kj_L_law_12 (by decide) rfl
theorem u_L_law_738 {d : Nat} {st : List zV} {h : zH} {l0 l1 l3 : Option zV} {x : (Option Nat)} : zX d tb_L_law 738 [l0, l1, some (.inr (.inr x)), l3] st h = zX d tb_L_law 739 [l0, l1, some (.inr (.inr x)), l3] (.inr (.inr x) :: st) h := (zX_unf (o := (.aload_n 2, 1, 0, [])) k_L_law_738).trans rfl
theorem k_L_law_739 : zlk tb_L_law 739 = some (.aload_n 0, 1, 0, []) := kj_L_law_12 (by decide) rfl
theorem u_L_law_739 {d : Nat} {st : List zV} {h : zH} {l1 l2 l3 : Option zV} {x : (Option Nat)} : zX d tb_L_law 739 [some (.inr (.inr x)), l1, l2, l3] st h = zX d tb_L_law 740 [some (.inr (.inr x)), l1, l2, l3] (.inr (.inr x) :: st) h := (zX_unf (o := (.aload_n 0, 1, 0, [])) k_L_law_739).trans rfl
theorem k_L_law_740 : zlk tb_L_law 740 = some (.iload_n 3, 1, 0, []) := kj_L_law_12 (by decide) rfl
theorem u_L_law_740 {d : Nat} {st : List zV} {h : zH} {l0 l1 l2 : Option zV} {x : Int32} : zX d tb_L_law 740 [l0, l1, l2, some (.inl x)] st h = zX d tb_L_law 741 [l0, l1, l2, some (.inl x)] (.inl x :: st) h := (zX_unf (o := (.iload_n 3, 1, 0, [])) k_L_law_740).trans rfl
theorem k_L_law_741 : zlk tb_L_law 741 = some (.iconst 1, 1, 0, []) := kj_L_law_12 (by decide) rfl
theorem u_L_law_741 {d : Nat} {ls : zL} {st : List zV} {h : zH} : zX d tb_L_law 741 ls st h = zX d tb_L_law 742 ls (.inl 1 :: st) h := (zX_unf (o := (.iconst 1, 1, 0, [])) k_L_law_741).trans rfl
theorem k_L_law_742 : zlk tb_L_law 742 = some (.iadd, 1, 0, []) := kj_L_law_12 (by decide) rfl
theorem u_L_law_742 {d : Nat} {ls : zL} {st : List zV} {h : zH} {x y : Int32} : zX d tb_L_law 742 ls (.inl y :: .inl x :: st) h = zX d tb_L_law 743 ls (.inl (x + y) :: st) h := (zX_unf (o := (.iadd, 1, 0, [])) k_L_law_742).trans rfl
theorem k_L_law_743 : zlk tb_L_law 743 = some (.iaload, 1, 0, []) := kj_L_law_12 (by decide) rfl
theorem u_L_law_743 {d : Nat} {ls : zL} {st : List zV} {h : zH} {a : Nat} {i : Int32} : zX d tb_L_law 743 ls (.inl i :: .inr (.inr (some a)) :: st) h = if (zk h a).1 = 12 ∨ (zk h a).1 = 16 then (zix i (zk h a).2).bind fun j => zX d tb_L_law 744 ls (.inl (zi h a j) :: st) h else none := ux_ald k_L_law_743
theorem k_L_law_744 : zlk tb_L_law 744 = some (.invokevirtual 79, 3, 1, [(11, 130, 0, "", "")]) := kj_L_law_13 (by decide) rfl
theorem u_L_law_744 {d : Nat} {ls : zL} {h : zH} {a : Nat} {v0 : Int32} {r0 : zV} : zX d tb_L_law 744 ls [.inl v0, .inr (.inr (some a)), r0] h = if 11 = (zk h a).1 then (zcall (zP zM) d 130 [.inr (.inr (some a)), .inl v0] h).bind (fun q => zX d tb_L_law 747 ls (q.1.toList ++ [r0]) q.2) else none := (ux_callV (t := [(11, 130, 0, "", "")]) (as := [.inl v0]) (r := [r0]) k_L_law_744 (n := 1) rfl rfl rfl (Nat.le_of_ble_eq_true rfl)).trans (zfb_1 _ _)
theorem k_L_law_747 : zlk tb_L_law 747 = some (.if_icmp .eq 283, 3, 0, []) := kj_L_law_13 (by decide) rfl
theorem u_L_law_747 {d : Nat} {ls : zL} {st : List zV} {h : zH} {x y : Int32} : zX d tb_L_law 747 ls (.inl y :: .inl x :: st) h = if x = y then zX d tb_L_law 1030 ls st h else zX d tb_L_law 750 ls st h := ux_ic_eq k_L_law_747 (by decide)
theorem k_L_law_750 : zlk tb_L_law 750 = some (.iconst 0, 1, 0, []) := kj_L_law_13 (by decide) rfl
theorem u_L_law_750 {d : Nat} {ls : zL} {st : List zV} {h : zH} : zX d tb_L_law 750 ls st h = zX d tb_L_law 751 ls (.inl 0 :: st) h := (zX_unf (o := (.iconst 0, 1, 0, [])) k_L_law_750).trans rfl
theorem k_L_law_751 : zlk tb_L_law 751 = some (.ireturn, 1, 1, []) := kj_L_law_13 (by decide) rfl
theorem u_L_law_751 {d : Nat} {ls : zL} {h : zH} {v : Int32} : zX d tb_L_law 751 ls [.inl v] h = if v = 0 ∨ v = 1 then some (some (.inl v), h) else none := ux_zret k_L_law_751
theorem k_L_law_752 : zlk tb_L_law 752 = some (.aload_n 1, 1, 0, []) := kj_L_law_13 (by decide) rfl
theorem u_L_law_752 {d : Nat} {st : List zV} {h : zH} {l0 l2 l3 : Option zV} {x : (Option Nat)} : zX d tb_L_law 752 [l0, some (.inr (.inr x)), l2, l3] st h = zX d tb_L_law 753 [l0, some (.inr (.inr x)), l2, l3] (.inr (.inr x) :: st) h := (zX_unf (o := (.aload_n 1, 1, 0, [])) k_L_law_752).trans rfl
theorem k_L_law_753 : zlk tb_L_law 753 = some (.aload_n 0, 1, 0, []) := kj_L_law_13 (by decide) rfl
theorem u_L_law_753 {d : Nat} {st : List zV} {h : zH} {l1 l2 l3 : Option zV} {x : (Option Nat)} : zX d tb_L_law 753 [some (.inr (.inr x)), l1, l2, l3] st h = zX d tb_L_law 754 [some (.inr (.inr x)), l1, l2, l3] (.inr (.inr x) :: st) h := (zX_unf (o := (.aload_n 0, 1, 0, [])) k_L_law_753).trans rfl
theorem k_L_law_754 : zlk tb_L_law 754 = some (.iload_n 3, 1, 0, []) := kj_L_law_13 (by decide) rfl
theorem u_L_law_754 {d : Nat} {st : List zV} {h : zH} {l0 l1 l2 : Option zV} {x : Int32} : zX d tb_L_law 754 [l0, l1, l2, some (.inl x)] st h = zX d tb_L_law 755 [l0, l1, l2, some (.inl x)] (.inl x :: st) h := (zX_unf (o := (.iload_n 3, 1, 0, [])) k_L_law_754).trans rfl
theorem k_L_law_755 : zlk tb_L_law 755 = some (.iconst 1, 1, 0, []) := kj_L_law_13 (by decide) rfl
theorem u_L_law_755 {d : Nat} {ls : zL} {st : List zV} {h : zH} : zX d tb_L_law 755 ls st h = zX d tb_L_law 756 ls (.inl 1 :: st) h := (zX_unf (o := (.iconst 1, 1, 0, [])) k_L_law_755).trans rfl
theorem k_L_law_756 : zlk tb_L_law 756 = some (.iadd, 1, 0, []) := kj_L_law_13 (by decide) rfl
theorem u_L_law_756 {d : Nat} {ls : zL} {st : List zV} {h : zH} {x y : Int32} : zX d tb_L_law 756 ls (.inl y :: .inl x :: st) h = zX d tb_L_law 757 ls (.inl (x + y) :: st) h := (zX_unf (o := (.iadd, 1, 0, [])) k_L_law_756).trans rfl
theorem k_L_law_757 : zlk tb_L_law 757 = some (.iaload, 1, 0, []) := kj_L_law_13 (by decide) rfl
theorem u_L_law_757 {d : Nat} {ls : zL} {st : List zV} {h : zH} {a : Nat} {i : Int32} : zX d tb_L_law 757 ls (.inl i :: .inr (.inr (some a)) :: st) h = if (zk h a).1 = 12 ∨ (zk h a).1 = 16 then (zix i (zk h a).2).bind fun j => zX d tb_L_law 758 ls (.inl (zi h a j) :: st) h else none := ux_ald k_L_law_757
theorem k_L_law_758 : zlk tb_L_law 758 = some (.aload_n 0, 1, 0, []) := kj_L_law_13 (by decide) rfl
theorem u_L_law_758 {d : Nat} {st : List zV} {h : zH} {l1 l2 l3 : Option zV} {x : (Option Nat)} : zX d tb_L_law 758 [some (.inr (.inr x)), l1, l2, l3] st h = zX d tb_L_law 759 [some (.inr (.inr x)), l1, l2, l3] (.inr (.inr x) :: st) h := (zX_unf (o := (.aload_n 0, 1, 0, [])) k_L_law_758).trans rfl
theorem k_L_law_759 : zlk tb_L_law 759 = some (.iload_n 3, 1, 0, []) := kj_L_law_13 (by decide) rfl
theorem u_L_law_759 {d : Nat} {st : List zV} {h : zH} {l0 l1 l2 : Option zV} {x : Int32} : zX d tb_L_law 759 [l0, l1, l2, some (.inl x)] st h = zX d tb_L_law 760 [l0, l1, l2, some (.inl x)] (.inl x :: st) h := (zX_unf (o := (.iload_n 3, 1, 0, [])) k_L_law_759).trans rfl
theorem k_L_law_760 : zlk tb_L_law 760 = some (.iconst 2, 1, 0, []) := kj_L_law_13 (by decide) rfl
theorem u_L_law_760 {d : Nat} {ls : zL} {st : List zV} {h : zH} : zX d tb_L_law 760 ls st h = zX d tb_L_law 761 ls (.inl 2 :: st) h := (zX_unf (o := (.iconst 2, 1, 0, [])) k_L_law_760).trans rfl
theorem k_L_law_761 : zlk tb_L_law 761 = some (.iadd, 1, 0, []) := kj_L_law_13 (by decide) rfl
theorem u_L_law_761 {d : Nat} {ls : zL} {st : List zV} {h : zH} {x y : Int32} : zX d tb_L_law 761 ls (.inl y :: .inl x :: st) h = zX d tb_L_law 762 ls (.inl (x + y) :: st) h := (zX_unf (o := (.iadd, 1, 0, [])) k_L_law_761).trans rfl
theorem k_L_law_762 : zlk tb_L_law 762 = some (.iaload, 1, 0, []) := kj_L_law_13 (by decide) rfl
theorem u_L_law_762 {d : Nat} {ls : zL} {st : List zV} {h : zH} {a : Nat} {i : Int32} : zX d tb_L_law 762 ls (.inl i :: .inr (.inr (some a)) :: st) h = if (zk h a).1 = 12 ∨ (zk h a).1 = 16 then (zix i (zk h a).2).bind fun j => zX d tb_L_law 763 ls (.inl (zi h a j) :: st) h else none := ux_ald k_L_law_762
theorem k_L_law_763 : zlk tb_L_law 763 = some (.aload_n 0, 1, 0, []) := kj_L_law_13 (by decide) rfl
theorem u_L_law_763 {d : Nat} {st : List zV} {h : zH} {l1 l2 l3 : Option zV} {x : (Option Nat)} : zX d tb_L_law 763 [some (.inr (.inr x)), l1, l2, l3] st h = zX d tb_L_law 764 [some (.inr (.inr x)), l1, l2, l3] (.inr (.inr x) :: st) h := (zX_unf (o := (.aload_n 0, 1, 0, [])) k_L_law_763).trans rfl
theorem k_L_law_764 : zlk tb_L_law 764 = some (.iload_n 3, 1, 0, []) := kj_L_law_13 (by decide) rfl
theorem u_L_law_764 {d : Nat} {st : List zV} {h : zH} {l0 l1 l2 : Option zV} {x : Int32} : zX d tb_L_law 764 [l0, l1, l2, some (.inl x)] st h = zX d tb_L_law 765 [l0, l1, l2, some (.inl x)] (.inl x :: st) h := (zX_unf (o := (.iload_n 3, 1, 0, [])) k_L_law_764).trans rfl
theorem k_L_law_765 : zlk tb_L_law 765 = some (.iconst 3, 1, 0, []) := kj_L_law_13 (by decide) rfl
theorem u_L_law_765 {d : Nat} {ls : zL} {st : List zV} {h : zH} : zX d tb_L_law 765 ls st h = zX d tb_L_law 766 ls (.inl 3 :: st) h := (zX_unf (o := (.iconst 3, 1, 0, [])) k_L_law_765).trans rfl
theorem k_L_law_766 : zlk tb_L_law 766 = some (.iadd, 1, 0, []) := kj_L_law_13 (by decide) rfl
theorem u_L_law_766 {d : Nat} {ls : zL} {st : List zV} {h : zH} {x y : Int32} : zX d tb_L_law 766 ls (.inl y :: .inl x :: st) h = zX d tb_L_law 767 ls (.inl (x + y) :: st) h := (zX_unf (o := (.iadd, 1, 0, [])) k_L_law_766).trans rfl
theorem k_L_law_767 : zlk tb_L_law 767 = some (.iaload, 1, 0, []) := kj_L_law_13 (by decide) rfl
theorem u_L_law_767 {d : Nat} {ls : zL} {st : List zV} {h : zH} {a : Nat} {i : Int32} : zX d tb_L_law 767 ls (.inl i :: .inr (.inr (some a)) :: st) h = if (zk h a).1 = 12 ∨ (zk h a).1 = 16 then (zix i (zk h a).2).bind fun j => zX d tb_L_law 768 ls (.inl (zi h a j) :: st) h else none := ux_ald k_L_law_767
theorem k_L_law_768 : zlk tb_L_law 768 = some (.invokevirtual 80, 3, 3, [(10, 71, 0, "", "")]) := kj_L_law_13 (by decide) rfl
theorem u_L_law_768 {d : Nat} {ls : zL} {h : zH} {a : Nat} {v0 : Int32} {v1 : Int32} {v2 : Int32} : zX d tb_L_law 768 ls [.inl v2, .inl v1, .inl v0, .inr (.inr (some a))] h = if 10 = (zk h a).1 then (zcall (zP zM) d 71 [.inr (.inr (some a)), .inl v0, .inl v1, .inl v2] h).bind (fun q => zX d tb_L_law 771 ls (q.1.toList ++ []) q.2) else none := (ux_callV (t := [(10, 71, 0, "", "")]) (as := [.inl v0, .inl v1, .inl v2]) (r := []) k_L_law_768 (n := 3) rfl rfl rfl (Nat.le_of_ble_eq_true rfl)).trans (zfb_1 _ _)
theorem k_L_law_771 : zlk tb_L_law 771 = some (.aload_n 2, 1, 0, []) := kj_L_law_13 (by decide) rfl
theorem u_L_law_771 {d : Nat} {st : List zV} {h : zH} {l0 l1 l3 : Option zV} {x : (Option Nat)} : zX d tb_L_law 771 [l0, l1, some (.inr (.inr x)), l3] st h = zX d tb_L_law 772 [l0, l1, some (.inr (.inr x)), l3] (.inr (.inr x) :: st) h := (zX_unf (o := (.aload_n 2, 1, 0, [])) k_L_law_771).trans rfl
theorem k_L_law_772 : zlk tb_L_law 772 = some (.aload_n 0, 1, 0, []) := kj_L_law_13 (by decide) rfl
theorem u_L_law_772 {d : Nat} {st : List zV} {h : zH} {l1 l2 l3 : Option zV} {x : (Option Nat)} : zX d tb_L_law 772 [some (.inr (.inr x)), l1, l2, l3] st h = zX d tb_L_law 773 [some (.inr (.inr x)), l1, l2, l3] (.inr (.inr x) :: st) h := (zX_unf (o := (.aload_n 0, 1, 0, [])) k_L_law_772).trans rfl
theorem k_L_law_773 : zlk tb_L_law 773 = some (.iload_n 3, 1, 0, []) := kj_L_law_13 (by decide) rfl
theorem u_L_law_773 {d : Nat} {st : List zV} {h : zH} {l0 l1 l2 : Option zV} {x : Int32} : zX d tb_L_law 773 [l0, l1, l2, some (.inl x)] st h = zX d tb_L_law 774 [l0, l1, l2, some (.inl x)] (.inl x :: st) h := (zX_unf (o := (.iload_n 3, 1, 0, [])) k_L_law_773).trans rfl
theorem k_L_law_774 : zlk tb_L_law 774 = some (.iconst 1, 1, 0, []) := kj_L_law_13 (by decide) rfl
theorem u_L_law_774 {d : Nat} {ls : zL} {st : List zV} {h : zH} : zX d tb_L_law 774 ls st h = zX d tb_L_law 775 ls (.inl 1 :: st) h := (zX_unf (o := (.iconst 1, 1, 0, [])) k_L_law_774).trans rfl
theorem k_L_law_775 : zlk tb_L_law 775 = some (.iadd, 1, 0, []) := kj_L_law_13 (by decide) rfl
theorem u_L_law_775 {d : Nat} {ls : zL} {st : List zV} {h : zH} {x y : Int32} : zX d tb_L_law 775 ls (.inl y :: .inl x :: st) h = zX d tb_L_law 776 ls (.inl (x + y) :: st) h := (zX_unf (o := (.iadd, 1, 0, [])) k_L_law_775).trans rfl
theorem k_L_law_776 : zlk tb_L_law 776 = some (.iaload, 1, 0, []) := kj_L_law_13 (by decide) rfl
theorem u_L_law_776 {d : Nat} {ls : zL} {st : List zV} {h : zH} {a : Nat} {i : Int32} : zX d tb_L_law 776 ls (.inl i :: .inr (.inr (some a)) :: st) h = if (zk h a).1 = 12 ∨ (zk h a).1 = 16 then (zix i (zk h a).2).bind fun j => zX d tb_L_law 777 ls (.inl (zi h a j) :: st) h else none := ux_ald k_L_law_776
theorem k_L_law_777 : zlk tb_L_law 777 = some (.aload_n 0, 1, 0, []) := kj_L_law_13 (by decide) rfl
theorem u_L_law_777 {d : Nat} {st : List zV} {h : zH} {l1 l2 l3 : Option zV} {x : (Option Nat)} : zX d tb_L_law 777 [some (.inr (.inr x)), l1, l2, l3] st h = zX d tb_L_law 778 [some (.inr (.inr x)), l1, l2, l3] (.inr (.inr x) :: st) h := (zX_unf (o := (.aload_n 0, 1, 0, [])) k_L_law_777).trans rfl
theorem k_L_law_778 : zlk tb_L_law 778 = some (.iload_n 3, 1, 0, []) := kj_L_law_13 (by decide) rfl
theorem u_L_law_778 {d : Nat} {st : List zV} {h : zH} {l0 l1 l2 : Option zV} {x : Int32} : zX d tb_L_law 778 [l0, l1, l2, some (.inl x)] st h = zX d tb_L_law 779 [l0, l1, l2, some (.inl x)] (.inl x :: st) h := (zX_unf (o := (.iload_n 3, 1, 0, [])) k_L_law_778).trans rfl
theorem k_L_law_779 : zlk tb_L_law 779 = some (.iconst 2, 1, 0, []) := kj_L_law_13 (by decide) rfl
theorem u_L_law_779 {d : Nat} {ls : zL} {st : List zV} {h : zH} : zX d tb_L_law 779 ls st h = zX d tb_L_law 780 ls (.inl 2 :: st) h := (zX_unf (o := (.iconst 2, 1, 0, [])) k_L_law_779).trans rfl
theorem k_L_law_780 : zlk tb_L_law 780 = some (.iadd, 1, 0, []) := kj_L_law_13 (by decide) rfl
theorem u_L_law_780 {d : Nat} {ls : zL} {st : List zV} {h : zH} {x y : Int32} : zX d tb_L_law 780 ls (.inl y :: .inl x :: st) h = zX d tb_L_law 781 ls (.inl (x + y) :: st) h := (zX_unf (o := (.iadd, 1, 0, [])) k_L_law_780).trans rfl
theorem k_L_law_781 : zlk tb_L_law 781 = some (.iaload, 1, 0, []) := kj_L_law_13 (by decide) rfl
theorem u_L_law_781 {d : Nat} {ls : zL} {st : List zV} {h : zH} {a : Nat} {i : Int32} : zX d tb_L_law 781 ls (.inl i :: .inr (.inr (some a)) :: st) h = if (zk h a).1 = 12 ∨ (zk h a).1 = 16 then (zix i (zk h a).2).bind fun j => zX d tb_L_law 782 ls (.inl (zi h a j) :: st) h else none := ux_ald k_L_law_781
theorem k_L_law_782 : zlk tb_L_law 782 = some (.aload_n 0, 1, 0, []) := kj_L_law_13 (by decide) rfl
theorem u_L_law_782 {d : Nat} {st : List zV} {h : zH} {l1 l2 l3 : Option zV} {x : (Option Nat)} : zX d tb_L_law 782 [some (.inr (.inr x)), l1, l2, l3] st h = zX d tb_L_law 783 [some (.inr (.inr x)), l1, l2, l3] (.inr (.inr x) :: st) h := (zX_unf (o := (.aload_n 0, 1, 0, [])) k_L_law_782).trans rfl
theorem k_L_law_783 : zlk tb_L_law 783 = some (.iload_n 3, 1, 0, []) := kj_L_law_13 (by decide) rfl
theorem u_L_law_783 {d : Nat} {st : List zV} {h : zH} {l0 l1 l2 : Option zV} {x : Int32} : zX d tb_L_law 783 [l0, l1, l2, some (.inl x)] st h = zX d tb_L_law 784 [l0, l1, l2, some (.inl x)] (.inl x :: st) h := (zX_unf (o := (.iload_n 3, 1, 0, [])) k_L_law_783).trans rfl
theorem k_L_law_784 : zlk tb_L_law 784 = some (.iconst 3, 1, 0, []) := kj_L_law_13 (by decide) rfl
theorem u_L_law_784 {d : Nat} {ls : zL} {st : List zV} {h : zH} : zX d tb_L_law 784 ls st h = zX d tb_L_law 785 ls (.inl 3 :: st) h := (zX_unf (o := (.iconst 3, 1, 0, [])) k_L_law_784).trans rfl
theorem k_L_law_785 : zlk tb_L_law 785 = some (.iadd, 1, 0, []) := kj_L_law_13 (by decide) rfl
theorem u_L_law_785 {d : Nat} {ls : zL} {st : List zV} {h : zH} {x y : Int32} : zX d tb_L_law 785 ls (.inl y :: .inl x :: st) h = zX d tb_L_law 786 ls (.inl (x + y) :: st) h := (zX_unf (o := (.iadd, 1, 0, [])) k_L_law_785).trans rfl
theorem k_L_law_786 : zlk tb_L_law 786 = some (.iaload, 1, 0, []) := kj_L_law_13 (by decide) rfl
theorem u_L_law_786 {d : Nat} {ls : zL} {st : List zV} {h : zH} {a : Nat} {i : Int32} : zX d tb_L_law 786 ls (.inl i :: .inr (.inr (some a)) :: st) h = if (zk h a).1 = 12 ∨ (zk h a).1 = 16 then (zix i (zk h a).2).bind fun j => zX d tb_L_law 787 ls (.inl (zi h a j) :: st) h else none := ux_ald k_L_law_786
theorem k_L_law_787 : zlk tb_L_law 787 = some (.invokevirtual 83, 3, 3, [(11, 132, 0, "", "")]) := kj_L_law_13 (by decide) rfl
theorem u_L_law_787 {d : Nat} {ls : zL} {h : zH} {a : Nat} {v0 : Int32} {v1 : Int32} {v2 : Int32} {r0 : zV} : zX d tb_L_law 787 ls [.inl v2, .inl v1, .inl v0, .inr (.inr (some a)), r0] h = if 11 = (zk h a).1 then (zcall (zP zM) d 132 [.inr (.inr (some a)), .inl v0, .inl v1, .inl v2] h).bind (fun q => zX d tb_L_law 790 ls (q.1.toList ++ [r0]) q.2) else none := (ux_callV (t := [(11, 132, 0, "", "")]) (as := [.inl v0, .inl v1, .inl v2]) (r := [r0]) k_L_law_787 (n := 3) rfl rfl rfl (Nat.le_of_ble_eq_true rfl)).trans (zfb_1 _ _)
theorem k_L_law_790 : zlk tb_L_law 790 = some (.if_icmp .eq 240, 3, 0, []) := kj_L_law_13 (by decide) rfl
theorem u_L_law_790 {d : Nat} {ls : zL} {st : List zV} {h : zH} {x y : Int32} : zX d tb_L_law 790 ls (.inl y :: .inl x :: st) h = if x = y then zX d tb_L_law 1030 ls st h else zX d tb_L_law 793 ls st h := ux_ic_eq k_L_law_790 (by decide)
theorem k_L_law_793 : zlk tb_L_law 793 = some (.iconst 0, 1, 0, []) := kj_L_law_13 (by decide) rfl
theorem u_L_law_793 {d : Nat} {ls : zL} {st : List zV} {h : zH} : zX d tb_L_law 793 ls st h = zX d tb_L_law 794 ls (.inl 0 :: st) h := (zX_unf (o := (.iconst 0, 1, 0, [])) k_L_law_793).trans rfl
theorem k_L_law_794 : zlk tb_L_law 794 = some (.ireturn, 1, 1, []) := kj_L_law_14 (by decide) rfl
theorem u_L_law_794 {d : Nat} {ls : zL} {h : zH} {v : Int32} : zX d tb_L_law 794 ls [.inl v] h = if v = 0 ∨ v = 1 then some (some (.inl v), h) else none := ux_zret k_L_law_794
theorem k_L_law_795 : zlk tb_L_law 795 = some (.aload_n 1, 1, 0, []) := kj_L_law_14 (by decide) rfl
theorem u_L_law_795 {d : Nat} {st : List zV} {h : zH} {l0 l2 l3 : Option zV} {x : (Option Nat)} : zX d tb_L_law 795 [l0, some (.inr (.inr x)), l2, l3] st h = zX d tb_L_law 796 [l0, some (.inr (.inr x)), l2, l3] (.inr (.inr x) :: st) h := (zX_unf (o := (.aload_n 1, 1, 0, [])) k_L_law_795).trans rfl
theorem k_L_law_796 : zlk tb_L_law 796 = some (.aload_n 0, 1, 0, []) := kj_L_law_14 (by decide) rfl
theorem u_L_law_796 {d : Nat} {st : List zV} {h : zH} {l1 l2 l3 : Option zV} {x : (Option Nat)} : zX d tb_L_law 796 [some (.inr (.inr x)), l1, l2, l3] st h = zX d tb_L_law 797 [some (.inr (.inr x)), l1, l2, l3] (.inr (.inr x) :: st) h := (zX_unf (o := (.aload_n 0, 1, 0, [])) k_L_law_796).trans rfl
theorem k_L_law_797 : zlk tb_L_law 797 = some (.iload_n 3, 1, 0, []) := kj_L_law_14 (by decide) rfl
theorem u_L_law_797 {d : Nat} {st : List zV} {h : zH} {l0 l1 l2 : Option zV} {x : Int32} : zX d tb_L_law 797 [l0, l1, l2, some (.inl x)] st h = zX d tb_L_law 798 [l0, l1, l2, some (.inl x)] (.inl x :: st) h := (zX_unf (o := (.iload_n 3, 1, 0, [])) k_L_law_797).trans rfl
theorem k_L_law_798 : zlk tb_L_law 798 = some (.iconst 1, 1, 0, []) := kj_L_law_14 (by decide) rfl
theorem u_L_law_798 {d : Nat} {ls : zL} {st : List zV} {h : zH} : zX d tb_L_law 798 ls st h = zX d tb_L_law 799 ls (.inl 1 :: st) h := (zX_unf (o := (.iconst 1, 1, 0, [])) k_L_law_798).trans rfl
theorem k_L_law_799 : zlk tb_L_law 799 = some (.iadd, 1, 0, []) := kj_L_law_14 (by decide) rfl
theorem u_L_law_799 {d : Nat} {ls : zL} {st : List zV} {h : zH} {x y : Int32} : zX d tb_L_law 799 ls (.inl y :: .inl x :: st) h = zX d tb_L_law 800 ls (.inl (x + y) :: st) h := (zX_unf (o := (.iadd, 1, 0, [])) k_L_law_799).trans rfl
theorem k_L_law_800 : zlk tb_L_law 800 = some (.iaload, 1, 0, []) := kj_L_law_14 (by decide) rfl
theorem u_L_law_800 {d : Nat} {ls : zL} {st : List zV} {h : zH} {a : Nat} {i : Int32} : zX d tb_L_law 800 ls (.inl i :: .inr (.inr (some a)) :: st) h = if (zk h a).1 = 12 ∨ (zk h a).1 = 16 then (zix i (zk h a).2).bind fun j => zX d tb_L_law 801 ls (.inl (zi h a j) :: st) h else none := ux_ald k_L_law_800
theorem k_L_law_801 : zlk tb_L_law 801 = some (.aload_n 0, 1, 0, []) := kj_L_law_14 (by decide) rfl
theorem u_L_law_801 {d : Nat} {st : List zV} {h : zH} {l1 l2 l3 : Option zV} {x : (Option Nat)} : zX d tb_L_law 801 [some (.inr (.inr x)), l1, l2, l3] st h = zX d tb_L_law 802 [some (.inr (.inr x)), l1, l2, l3] (.inr (.inr x) :: st) h := (zX_unf (o := (.aload_n 0, 1, 0, [])) k_L_law_801).trans rfl
theorem k_L_law_802 : zlk tb_L_law 802 = some (.iload_n 3, 1, 0, []) := kj_L_law_14 (by decide) rfl
theorem u_L_law_802 {d : Nat} {st : List zV} {h : zH} {l0 l1 l2 : Option zV} {x : Int32} : zX d tb_L_law 802 [l0, l1, l2, some (.inl x)] st h = zX d tb_L_law 803 [l0, l1, l2, some (.inl x)] (.inl x :: st) h := (zX_unf (o := (.iload_n 3, 1, 0, [])) k_L_law_802).trans rfl
theorem k_L_law_803 : zlk tb_L_law 803 = some (.iconst 2, 1, 0, []) := kj_L_law_14 (by decide) rfl
theorem u_L_law_803 {d : Nat} {ls : zL} {st : List zV} {h : zH} : zX d tb_L_law 803 ls st h = zX d tb_L_law 804 ls (.inl 2 :: st) h := (zX_unf (o := (.iconst 2, 1, 0, [])) k_L_law_803).trans rfl
theorem k_L_law_804 : zlk tb_L_law 804 = some (.iadd, 1, 0, []) := kj_L_law_14 (by decide) rfl
theorem u_L_law_804 {d : Nat} {ls : zL} {st : List zV} {h : zH} {x y : Int32} : zX d tb_L_law 804 ls (.inl y :: .inl x :: st) h = zX d tb_L_law 805 ls (.inl (x + y) :: st) h := (zX_unf (o := (.iadd, 1, 0, [])) k_L_law_804).trans rfl
theorem k_L_law_805 : zlk tb_L_law 805 = some (.iaload, 1, 0, []) := kj_L_law_14 (by decide) rfl
theorem u_L_law_805 {d : Nat} {ls : zL} {st : List zV} {h : zH} {a : Nat} {i : Int32} : zX d tb_L_law 805 ls (.inl i :: .inr (.inr (some a)) :: st) h = if (zk h a).1 = 12 ∨ (zk h a).1 = 16 then (zix i (zk h a).2).bind fun j => zX d tb_L_law 806 ls (.inl (zi h a j) :: st) h else none := ux_ald k_L_law_805
theorem k_L_law_806 : zlk tb_L_law 806 = some (.aload_n 0, 1, 0, []) := kj_L_law_14 (by decide) rfl
theorem u_L_law_806 {d : Nat} {st : List zV} {h : zH} {l1 l2 l3 : Option zV} {x : (Option Nat)} : zX d tb_L_law 806 [some (.inr (.inr x)), l1, l2, l3] st h = zX d tb_L_law 807 [some (.inr (.inr x)), l1, l2, l3] (.inr (.inr x) :: st) h := (zX_unf (o := (.aload_n 0, 1, 0, [])) k_L_law_806).trans rfl
theorem k_L_law_807 : zlk tb_L_law 807 = some (.iload_n 3, 1, 0, []) := kj_L_law_14 (by decide) rfl
theorem u_L_law_807 {d : Nat} {st : List zV} {h : zH} {l0 l1 l2 : Option zV} {x : Int32} : zX d tb_L_law 807 [l0, l1, l2, some (.inl x)] st h = zX d tb_L_law 808 [l0, l1, l2, some (.inl x)] (.inl x :: st) h := (zX_unf (o := (.iload_n 3, 1, 0, [])) k_L_law_807).trans rfl
theorem k_L_law_808 : zlk tb_L_law 808 = some (.iconst 3, 1, 0, []) := kj_L_law_14 (by decide) rfl
theorem u_L_law_808 {d : Nat} {ls : zL} {st : List zV} {h : zH} : zX d tb_L_law 808 ls st h = zX d tb_L_law 809 ls (.inl 3 :: st) h := (zX_unf (o := (.iconst 3, 1, 0, [])) k_L_law_808).trans rfl
theorem k_L_law_809 : zlk tb_L_law 809 = some (.iadd, 1, 0, []) := kj_L_law_14 (by decide) rfl
theorem u_L_law_809 {d : Nat} {ls : zL} {st : List zV} {h : zH} {x y : Int32} : zX d tb_L_law 809 ls (.inl y :: .inl x :: st) h = zX d tb_L_law 810 ls (.inl (x + y) :: st) h := (zX_unf (o := (.iadd, 1, 0, [])) k_L_law_809).trans rfl
theorem k_L_law_810 : zlk tb_L_law 810 = some (.iaload, 1, 0, []) := kj_L_law_14 (by decide) rfl
theorem u_L_law_810 {d : Nat} {ls : zL} {st : List zV} {h : zH} {a : Nat} {i : Int32} : zX d tb_L_law 810 ls (.inl i :: .inr (.inr (some a)) :: st) h = if (zk h a).1 = 12 ∨ (zk h a).1 = 16 then (zix i (zk h a).2).bind fun j => zX d tb_L_law 811 ls (.inl (zi h a j) :: st) h else none := ux_ald k_L_law_810
theorem k_L_law_811 : zlk tb_L_law 811 = some (.invokevirtual 84, 3, 3, [(10, 72, 0, "", "")]) := kj_L_law_14 (by decide) rfl
theorem u_L_law_811 {d : Nat} {ls : zL} {h : zH} {a : Nat} {v0 : Int32} {v1 : Int32} {v2 : Int32} : zX d tb_L_law 811 ls [.inl v2, .inl v1, .inl v0, .inr (.inr (some a))] h = if 10 = (zk h a).1 then (zcall (zP zM) d 72 [.inr (.inr (some a)), .inl v0, .inl v1, .inl v2] h).bind (fun q => zX d tb_L_law 814 ls (q.1.toList ++ []) q.2) else none := (ux_callV (t := [(10, 72, 0, "", "")]) (as := [.inl v0, .inl v1, .inl v2]) (r := []) k_L_law_811 (n := 3) rfl rfl rfl (Nat.le_of_ble_eq_true rfl)).trans (zfb_1 _ _)
theorem k_L_law_814 : zlk tb_L_law 814 = some (.aload_n 2, 1, 0, []) := kj_L_law_14 (by decide) rfl
theorem u_L_law_814 {d : Nat} {st : List zV} {h : zH} {l0 l1 l3 : Option zV} {x : (Option Nat)} : zX d tb_L_law 814 [l0, l1, some (.inr (.inr x)), l3] st h = zX d tb_L_law 815 [l0, l1, some (.inr (.inr x)), l3] (.inr (.inr x) :: st) h := (zX_unf (o := (.aload_n 2, 1, 0, [])) k_L_law_814).trans rfl
theorem k_L_law_815 : zlk tb_L_law 815 = some (.aload_n 0, 1, 0, []) := kj_L_law_14 (by decide) rfl
theorem u_L_law_815 {d : Nat} {st : List zV} {h : zH} {l1 l2 l3 : Option zV} {x : (Option Nat)} : zX d tb_L_law 815 [some (.inr (.inr x)), l1, l2, l3] st h = zX d tb_L_law 816 [some (.inr (.inr x)), l1, l2, l3] (.inr (.inr x) :: st) h := (zX_unf (o := (.aload_n 0, 1, 0, [])) k_L_law_815).trans rfl
theorem k_L_law_816 : zlk tb_L_law 816 = some (.iload_n 3, 1, 0, []) := kj_L_law_14 (by decide) rfl
theorem u_L_law_816 {d : Nat} {st : List zV} {h : zH} {l0 l1 l2 : Option zV} {x : Int32} : zX d tb_L_law 816 [l0, l1, l2, some (.inl x)] st h = zX d tb_L_law 817 [l0, l1, l2, some (.inl x)] (.inl x :: st) h := (zX_unf (o := (.iload_n 3, 1, 0, [])) k_L_law_816).trans rfl
theorem k_L_law_817 : zlk tb_L_law 817 = some (.iconst 1, 1, 0, []) := kj_L_law_14 (by decide) rfl
theorem u_L_law_817 {d : Nat} {ls : zL} {st : List zV} {h : zH} : zX d tb_L_law 817 ls st h = zX d tb_L_law 818 ls (.inl 1 :: st) h := (zX_unf (o := (.iconst 1, 1, 0, [])) k_L_law_817).trans rfl
theorem k_L_law_818 : zlk tb_L_law 818 = some (.iadd, 1, 0, []) := kj_L_law_14 (by decide) rfl
theorem u_L_law_818 {d : Nat} {ls : zL} {st : List zV} {h : zH} {x y : Int32} : zX d tb_L_law 818 ls (.inl y :: .inl x :: st) h = zX d tb_L_law 819 ls (.inl (x + y) :: st) h := (zX_unf (o := (.iadd, 1, 0, [])) k_L_law_818).trans rfl
theorem k_L_law_819 : zlk tb_L_law 819 = some (.iaload, 1, 0, []) := kj_L_law_14 (by decide) rfl
theorem u_L_law_819 {d : Nat} {ls : zL} {st : List zV} {h : zH} {a : Nat} {i : Int32} : zX d tb_L_law 819 ls (.inl i :: .inr (.inr (some a)) :: st) h = if (zk h a).1 = 12 ∨ (zk h a).1 = 16 then (zix i (zk h a).2).bind fun j => zX d tb_L_law 820 ls (.inl (zi h a j) :: st) h else none := ux_ald k_L_law_819
theorem k_L_law_820 : zlk tb_L_law 820 = some (.aload_n 0, 1, 0, []) := kj_L_law_14 (by decide) rfl
theorem u_L_law_820 {d : Nat} {st : List zV} {h : zH} {l1 l2 l3 : Option zV} {x : (Option Nat)} : zX d tb_L_law 820 [some (.inr (.inr x)), l1, l2, l3] st h = zX d tb_L_law 821 [some (.inr (.inr x)), l1, l2, l3] (.inr (.inr x) :: st) h := (zX_unf (o := (.aload_n 0, 1, 0, [])) k_L_law_820).trans rfl
theorem k_L_law_821 : zlk tb_L_law 821 = some (.iload_n 3, 1, 0, []) := kj_L_law_14 (by decide) rfl
theorem u_L_law_821 {d : Nat} {st : List zV} {h : zH} {l0 l1 l2 : Option zV} {x : Int32} : zX d tb_L_law 821 [l0, l1, l2, some (.inl x)] st h = zX d tb_L_law 822 [l0, l1, l2, some (.inl x)] (.inl x :: st) h := (zX_unf (o := (.iload_n 3, 1, 0, [])) k_L_law_821).trans rfl
theorem k_L_law_822 : zlk tb_L_law 822 = some (.iconst 2, 1, 0, []) := kj_L_law_14 (by decide) rfl
theorem u_L_law_822 {d : Nat} {ls : zL} {st : List zV} {h : zH} : zX d tb_L_law 822 ls st h = zX d tb_L_law 823 ls (.inl 2 :: st) h := (zX_unf (o := (.iconst 2, 1, 0, [])) k_L_law_822).trans rfl
theorem k_L_law_823 : zlk tb_L_law 823 = some (.iadd, 1, 0, []) := kj_L_law_14 (by decide) rfl
theorem u_L_law_823 {d : Nat} {ls : zL} {st : List zV} {h : zH} {x y : Int32} : zX d tb_L_law 823 ls (.inl y :: .inl x :: st) h = zX d tb_L_law 824 ls (.inl (x + y) :: st) h := (zX_unf (o := (.iadd, 1, 0, [])) k_L_law_823).trans rfl
theorem k_L_law_824 : zlk tb_L_law 824 = some (.iaload, 1, 0, []) := kj_L_law_14 (by decide) rfl
theorem u_L_law_824 {d : Nat} {ls : zL} {st : List zV} {h : zH} {a : Nat} {i : Int32} : zX d tb_L_law 824 ls (.inl i :: .inr (.inr (some a)) :: st) h = if (zk h a).1 = 12 ∨ (zk h a).1 = 16 then (zix i (zk h a).2).bind fun j => zX d tb_L_law 825 ls (.inl (zi h a j) :: st) h else none := ux_ald k_L_law_824
theorem k_L_law_825 : zlk tb_L_law 825 = some (.aload_n 0, 1, 0, []) := kj_L_law_14 (by decide) rfl
theorem u_L_law_825 {d : Nat} {st : List zV} {h : zH} {l1 l2 l3 : Option zV} {x : (Option Nat)} : zX d tb_L_law 825 [some (.inr (.inr x)), l1, l2, l3] st h = zX d tb_L_law 826 [some (.inr (.inr x)), l1, l2, l3] (.inr (.inr x) :: st) h := (zX_unf (o := (.aload_n 0, 1, 0, [])) k_L_law_825).trans rfl
theorem k_L_law_826 : zlk tb_L_law 826 = some (.iload_n 3, 1, 0, []) := kj_L_law_14 (by decide) rfl
theorem u_L_law_826 {d : Nat} {st : List zV} {h : zH} {l0 l1 l2 : Option zV} {x : Int32} : zX d tb_L_law 826 [l0, l1, l2, some (.inl x)] st h = zX d tb_L_law 827 [l0, l1, l2, some (.inl x)] (.inl x :: st) h := (zX_unf (o := (.iload_n 3, 1, 0, [])) k_L_law_826).trans rfl
theorem k_L_law_827 : zlk tb_L_law 827 = some (.iconst 3, 1, 0, []) := kj_L_law_14 (by decide) rfl
theorem u_L_law_827 {d : Nat} {ls : zL} {st : List zV} {h : zH} : zX d tb_L_law 827 ls st h = zX d tb_L_law 828 ls (.inl 3 :: st) h := (zX_unf (o := (.iconst 3, 1, 0, [])) k_L_law_827).trans rfl
theorem k_L_law_828 : zlk tb_L_law 828 = some (.iadd, 1, 0, []) := kj_L_law_14 (by decide) rfl
theorem u_L_law_828 {d : Nat} {ls : zL} {st : List zV} {h : zH} {x y : Int32} : zX d tb_L_law 828 ls (.inl y :: .inl x :: st) h = zX d tb_L_law 829 ls (.inl (x + y) :: st) h := (zX_unf (o := (.iadd, 1, 0, [])) k_L_law_828).trans rfl
theorem k_L_law_829 : zlk tb_L_law 829 = some (.iaload, 1, 0, []) := kj_L_law_14 (by decide) rfl
theorem u_L_law_829 {d : Nat} {ls : zL} {st : List zV} {h : zH} {a : Nat} {i : Int32} : zX d tb_L_law 829 ls (.inl i :: .inr (.inr (some a)) :: st) h = if (zk h a).1 = 12 ∨ (zk h a).1 = 16 then (zix i (zk h a).2).bind fun j => zX d tb_L_law 830 ls (.inl (zi h a j) :: st) h else none := ux_ald k_L_law_829
theorem k_L_law_830 : zlk tb_L_law 830 = some (.invokevirtual 87, 3, 3, [(11, 133, 0, "", "")]) := kj_L_law_14 (by decide) rfl
theorem u_L_law_830 {d : Nat} {ls : zL} {h : zH} {a : Nat} {v0 : Int32} {v1 : Int32} {v2 : Int32} {r0 : zV} : zX d tb_L_law 830 ls [.inl v2, .inl v1, .inl v0, .inr (.inr (some a)), r0] h = if 11 = (zk h a).1 then (zcall (zP zM) d 133 [.inr (.inr (some a)), .inl v0, .inl v1, .inl v2] h).bind (fun q => zX d tb_L_law 833 ls (q.1.toList ++ [r0]) q.2) else none := (ux_callV (t := [(11, 133, 0, "", "")]) (as := [.inl v0, .inl v1, .inl v2]) (r := [r0]) k_L_law_830 (n := 3) rfl rfl rfl (Nat.le_of_ble_eq_true rfl)).trans (zfb_1 _ _)
theorem k_L_law_833 : zlk tb_L_law 833 = some (.lcmp, 1, 0, []) := kj_L_law_14 (by decide) rfl
theorem u_L_law_833 {d : Nat} {ls : zL} {st : List zV} {h : zH} {x y : Int64} : zX d tb_L_law 833 ls (.inr (.inl y) :: .inr (.inl x) :: st) h = zX d tb_L_law 834 ls (.inl (lg_cmp x y) :: st) h := (zX_unf (o := (.lcmp, 1, 0, [])) k_L_law_833).trans rfl
theorem k_L_law_834 : zlk tb_L_law 834 = some (.ifCond .eq 196, 3, 0, []) := kj_L_law_14 (by decide) rfl
theorem u_L_law_834 {d : Nat} {ls : zL} {st : List zV} {h : zH} {x : Int32} : zX d tb_L_law 834 ls (.inl x :: st) h = if x = 0 then zX d tb_L_law 1030 ls st h else zX d tb_L_law 837 ls st h := ux_if_eq k_L_law_834 (by decide)
theorem k_L_law_837 : zlk tb_L_law 837 = some (.iconst 0, 1, 0, []) := kj_L_law_14 (by decide) rfl
theorem u_L_law_837 {d : Nat} {ls : zL} {st : List zV} {h : zH} : zX d tb_L_law 837 ls st h = zX d tb_L_law 838 ls (.inl 0 :: st) h := (zX_unf (o := (.iconst 0, 1, 0, [])) k_L_law_837).trans rfl
theorem k_L_law_838 : zlk tb_L_law 838 = some (.ireturn, 1, 1, []) := kj_L_law_14 (by decide) rfl
theorem u_L_law_838 {d : Nat} {ls : zL} {h : zH} {v : Int32} : zX d tb_L_law 838 ls [.inl v] h = if v = 0 ∨ v = 1 then some (some (.inl v), h) else none := ux_zret k_L_law_838
theorem k_L_law_839 : zlk tb_L_law 839 = some (.aload_n 1, 1, 0, []) := kj_L_law_14 (by decide) rfl
theorem u_L_law_839 {d : Nat} {st : List zV} {h : zH} {l0 l2 l3 : Option zV} {x : (Option Nat)} : zX d tb_L_law 839 [l0, some (.inr (.inr x)), l2, l3] st h = zX d tb_L_law 840 [l0, some (.inr (.inr x)), l2, l3] (.inr (.inr x) :: st) h := (zX_unf (o := (.aload_n 1, 1, 0, [])) k_L_law_839).trans rfl
theorem k_L_law_840 : zlk tb_L_law 840 = some (.aload_n 0, 1, 0, []) := kj_L_law_15 (by decide) rfl
theorem u_L_law_840 {d : Nat} {st : List zV} {h : zH} {l1 l2 l3 : Option zV} {x : (Option Nat)} : zX d tb_L_law 840 [some (.inr (.inr x)), l1, l2, l3] st h = zX d tb_L_law 841 [some (.inr (.inr x)), l1, l2, l3] (.inr (.inr x) :: st) h := (zX_unf (o := (.aload_n 0, 1, 0, [])) k_L_law_840).trans rfl
theorem k_L_law_841 : zlk tb_L_law 841 = some (.iload_n 3, 1, 0, []) := kj_L_law_15 (by decide) rfl
theorem u_L_law_841 {d : Nat} {st : List zV} {h : zH} {l0 l1 l2 : Option zV} {x : Int32} : zX d tb_L_law 841 [l0, l1, l2, some (.inl x)] st h = zX d tb_L_law 842 [l0, l1, l2, some (.inl x)] (.inl x :: st) h := (zX_unf (o := (.iload_n 3, 1, 0, [])) k_L_law_841).trans rfl
theorem k_L_law_842 : zlk tb_L_law 842 = some (.iconst 1, 1, 0, []) := kj_L_law_15 (by decide) rfl
theorem u_L_law_842 {d : Nat} {ls : zL} {st : List zV} {h : zH} : zX d tb_L_law 842 ls st h = zX d tb_L_law 843 ls (.inl 1 :: st) h := (zX_unf (o := (.iconst 1, 1, 0, [])) k_L_law_842).trans rfl
theorem k_L_law_843 : zlk tb_L_law 843 = some (.iadd, 1, 0, []) := kj_L_law_15 (by decide) rfl
theorem u_L_law_843 {d : Nat} {ls : zL} {st : List zV} {h : zH} {x y : Int32} : zX d tb_L_law 843 ls (.inl y :: .inl x :: st) h = zX d tb_L_law 844 ls (.inl (x + y) :: st) h := (zX_unf (o := (.iadd, 1, 0, [])) k_L_law_843).trans rfl
theorem k_L_law_844 : zlk tb_L_law 844 = some (.iaload, 1, 0, []) := kj_L_law_15 (by decide) rfl
theorem u_L_law_844 {d : Nat} {ls : zL} {st : List zV} {h : zH} {a : Nat} {i : Int32} : zX d tb_L_law 844 ls (.inl i :: .inr (.inr (some a)) :: st) h = if (zk h a).1 = 12 ∨ (zk h a).1 = 16 then (zix i (zk h a).2).bind fun j => zX d tb_L_law 845 ls (.inl (zi h a j) :: st) h else none := ux_ald k_L_law_844
theorem k_L_law_845 : zlk tb_L_law 845 = some (.aload_n 0, 1, 0, []) := kj_L_law_15 (by decide) rfl
theorem u_L_law_845 {d : Nat} {st : List zV} {h : zH} {l1 l2 l3 : Option zV} {x : (Option Nat)} : zX d tb_L_law 845 [some (.inr (.inr x)), l1, l2, l3] st h = zX d tb_L_law 846 [some (.inr (.inr x)), l1, l2, l3] (.inr (.inr x) :: st) h := (zX_unf (o := (.aload_n 0, 1, 0, [])) k_L_law_845).trans rfl
theorem k_L_law_846 : zlk tb_L_law 846 = some (.iload_n 3, 1, 0, []) := kj_L_law_15 (by decide) rfl
theorem u_L_law_846 {d : Nat} {st : List zV} {h : zH} {l0 l1 l2 : Option zV} {x : Int32} : zX d tb_L_law 846 [l0, l1, l2, some (.inl x)] st h = zX d tb_L_law 847 [l0, l1, l2, some (.inl x)] (.inl x :: st) h := (zX_unf (o := (.iload_n 3, 1, 0, [])) k_L_law_846).trans rfl
theorem k_L_law_847 : zlk tb_L_law 847 = some (.iconst 2, 1, 0, []) := kj_L_law_15 (by decide) rfl
theorem u_L_law_847 {d : Nat} {ls : zL} {st : List zV} {h : zH} : zX d tb_L_law 847 ls st h = zX d tb_L_law 848 ls (.inl 2 :: st) h := (zX_unf (o := (.iconst 2, 1, 0, [])) k_L_law_847).trans rfl
theorem k_L_law_848 : zlk tb_L_law 848 = some (.iadd, 1, 0, []) := kj_L_law_15 (by decide) rfl
theorem u_L_law_848 {d : Nat} {ls : zL} {st : List zV} {h : zH} {x y : Int32} : zX d tb_L_law 848 ls (.inl y :: .inl x :: st) h = zX d tb_L_law 849 ls (.inl (x + y) :: st) h := (zX_unf (o := (.iadd, 1, 0, [])) k_L_law_848).trans rfl
theorem k_L_law_849 : zlk tb_L_law 849 = some (.iaload, 1, 0, []) := kj_L_law_15 (by decide) rfl
theorem u_L_law_849 {d : Nat} {ls : zL} {st : List zV} {h : zH} {a : Nat} {i : Int32} : zX d tb_L_law 849 ls (.inl i :: .inr (.inr (some a)) :: st) h = if (zk h a).1 = 12 ∨ (zk h a).1 = 16 then (zix i (zk h a).2).bind fun j => zX d tb_L_law 850 ls (.inl (zi h a j) :: st) h else none := ux_ald k_L_law_849
theorem k_L_law_850 : zlk tb_L_law 850 = some (.aload_n 0, 1, 0, []) := kj_L_law_15 (by decide) rfl
theorem u_L_law_850 {d : Nat} {st : List zV} {h : zH} {l1 l2 l3 : Option zV} {x : (Option Nat)} : zX d tb_L_law 850 [some (.inr (.inr x)), l1, l2, l3] st h = zX d tb_L_law 851 [some (.inr (.inr x)), l1, l2, l3] (.inr (.inr x) :: st) h := (zX_unf (o := (.aload_n 0, 1, 0, [])) k_L_law_850).trans rfl
theorem k_L_law_851 : zlk tb_L_law 851 = some (.iload_n 3, 1, 0, []) := kj_L_law_15 (by decide) rfl
theorem u_L_law_851 {d : Nat} {st : List zV} {h : zH} {l0 l1 l2 : Option zV} {x : Int32} : zX d tb_L_law 851 [l0, l1, l2, some (.inl x)] st h = zX d tb_L_law 852 [l0, l1, l2, some (.inl x)] (.inl x :: st) h := (zX_unf (o := (.iload_n 3, 1, 0, [])) k_L_law_851).trans rfl
theorem k_L_law_852 : zlk tb_L_law 852 = some (.iconst 3, 1, 0, []) := kj_L_law_15 (by decide) rfl
theorem u_L_law_852 {d : Nat} {ls : zL} {st : List zV} {h : zH} : zX d tb_L_law 852 ls st h = zX d tb_L_law 853 ls (.inl 3 :: st) h := (zX_unf (o := (.iconst 3, 1, 0, [])) k_L_law_852).trans rfl
theorem k_L_law_853 : zlk tb_L_law 853 = some (.iadd, 1, 0, []) := kj_L_law_15 (by decide) rfl
theorem u_L_law_853 {d : Nat} {ls : zL} {st : List zV} {h : zH} {x y : Int32} : zX d tb_L_law 853 ls (.inl y :: .inl x :: st) h = zX d tb_L_law 854 ls (.inl (x + y) :: st) h := (zX_unf (o := (.iadd, 1, 0, [])) k_L_law_853).trans rfl
theorem k_L_law_854 : zlk tb_L_law 854 = some (.iaload, 1, 0, []) := kj_L_law_15 (by decide) rfl
theorem u_L_law_854 {d : Nat} {ls : zL} {st : List zV} {h : zH} {a : Nat} {i : Int32} : zX d tb_L_law 854 ls (.inl i :: .inr (.inr (some a)) :: st) h = if (zk h a).1 = 12 ∨ (zk h a).1 = 16 then (zix i (zk h a).2).bind fun j => zX d tb_L_law 855 ls (.inl (zi h a j) :: st) h else none := ux_ald k_L_law_854
theorem k_L_law_855 : zlk tb_L_law 855 = some (.aload_n 0, 1, 0, []) := kj_L_law_15 (by decide) rfl
theorem u_L_law_855 {d : Nat} {st : List zV} {h : zH} {l1 l2 l3 : Option zV} {x : (Option Nat)} : zX d tb_L_law 855 [some (.inr (.inr x)), l1, l2, l3] st h = zX d tb_L_law 856 [some (.inr (.inr x)), l1, l2, l3] (.inr (.inr x) :: st) h := (zX_unf (o := (.aload_n 0, 1, 0, [])) k_L_law_855).trans rfl
theorem k_L_law_856 : zlk tb_L_law 856 = some (.iload_n 3, 1, 0, []) := kj_L_law_15 (by decide) rfl
theorem u_L_law_856 {d : Nat} {st : List zV} {h : zH} {l0 l1 l2 : Option zV} {x : Int32} : zX d tb_L_law 856 [l0, l1, l2, some (.inl x)] st h = zX d tb_L_law 857 [l0, l1, l2, some (.inl x)] (.inl x :: st) h := (zX_unf (o := (.iload_n 3, 1, 0, [])) k_L_law_856).trans rfl
theorem k_L_law_857 : zlk tb_L_law 857 = some (.iconst 4, 1, 0, []) := kj_L_law_15 (by decide) rfl
theorem u_L_law_857 {d : Nat} {ls : zL} {st : List zV} {h : zH} : zX d tb_L_law 857 ls st h = zX d tb_L_law 858 ls (.inl 4 :: st) h := (zX_unf (o := (.iconst 4, 1, 0, [])) k_L_law_857).trans rfl
theorem k_L_law_858 : zlk tb_L_law 858 = some (.iadd, 1, 0, []) := kj_L_law_15 (by decide) rfl
theorem u_L_law_858 {d : Nat} {ls : zL} {st : List zV} {h : zH} {x y : Int32} : zX d tb_L_law 858 ls (.inl y :: .inl x :: st) h = zX d tb_L_law 859 ls (.inl (x + y) :: st) h := (zX_unf (o := (.iadd, 1, 0, [])) k_L_law_858).trans rfl
theorem k_L_law_859 : zlk tb_L_law 859 = some (.iaload, 1, 0, []) := kj_L_law_15 (by decide) rfl
theorem u_L_law_859 {d : Nat} {ls : zL} {st : List zV} {h : zH} {a : Nat} {i : Int32} : zX d tb_L_law 859 ls (.inl i :: .inr (.inr (some a)) :: st) h = if (zk h a).1 = 12 ∨ (zk h a).1 = 16 then (zix i (zk h a).2).bind fun j => zX d tb_L_law 860 ls (.inl (zi h a j) :: st) h else none := ux_ald k_L_law_859
theorem k_L_law_860 : zlk tb_L_law 860 = some (.aload_n 0, 1, 0, []) := kj_L_law_15 (by decide) rfl
theorem u_L_law_860 {d : Nat} {st : List zV} {h : zH} {l1 l2 l3 : Option zV} {x : (Option Nat)} : zX d tb_L_law 860 [some (.inr (.inr x)), l1, l2, l3] st h = zX d tb_L_law 861 [some (.inr (.inr x)), l1, l2, l3] (.inr (.inr x) :: st) h := (zX_unf (o := (.aload_n 0, 1, 0, [])) k_L_law_860).trans rfl
theorem k_L_law_861 : zlk tb_L_law 861 = some (.iload_n 3, 1, 0, []) := kj_L_law_15 (by decide) rfl
theorem u_L_law_861 {d : Nat} {st : List zV} {h : zH} {l0 l1 l2 : Option zV} {x : Int32} : zX d tb_L_law 861 [l0, l1, l2, some (.inl x)] st h = zX d tb_L_law 862 [l0, l1, l2, some (.inl x)] (.inl x :: st) h := (zX_unf (o := (.iload_n 3, 1, 0, [])) k_L_law_861).trans rfl
theorem k_L_law_862 : zlk tb_L_law 862 = some (.iconst 5, 1, 0, []) := kj_L_law_15 (by decide) rfl
theorem u_L_law_862 {d : Nat} {ls : zL} {st : List zV} {h : zH} : zX d tb_L_law 862 ls st h = zX d tb_L_law 863 ls (.inl 5 :: st) h := (zX_unf (o := (.iconst 5, 1, 0, [])) k_L_law_862).trans rfl
theorem k_L_law_863 : zlk tb_L_law 863 = some (.iadd, 1, 0, []) := kj_L_law_15 (by decide) rfl
theorem u_L_law_863 {d : Nat} {ls : zL} {st : List zV} {h : zH} {x y : Int32} : zX d tb_L_law 863 ls (.inl y :: .inl x :: st) h = zX d tb_L_law 864 ls (.inl (x + y) :: st) h := (zX_unf (o := (.iadd, 1, 0, [])) k_L_law_863).trans rfl
theorem k_L_law_864 : zlk tb_L_law 864 = some (.iaload, 1, 0, []) := kj_L_law_15 (by decide) rfl
theorem u_L_law_864 {d : Nat} {ls : zL} {st : List zV} {h : zH} {a : Nat} {i : Int32} : zX d tb_L_law 864 ls (.inl i :: .inr (.inr (some a)) :: st) h = if (zk h a).1 = 12 ∨ (zk h a).1 = 16 then (zix i (zk h a).2).bind fun j => zX d tb_L_law 865 ls (.inl (zi h a j) :: st) h else none := ux_ald k_L_law_864
theorem k_L_law_865 : zlk tb_L_law 865 = some (.invokevirtual 88, 3, 5, [(10, 73, 0, "", "")]) := kj_L_law_15 (by decide) rfl
theorem u_L_law_865 {d : Nat} {ls : zL} {h : zH} {a : Nat} {v0 : Int32} {v1 : Int32} {v2 : Int32} {v3 : Int32} {v4 : Int32} : zX d tb_L_law 865 ls [.inl v4, .inl v3, .inl v2, .inl v1, .inl v0, .inr (.inr (some a))] h = if 10 = (zk h a).1 then (zcall (zP zM) d 73 [.inr (.inr (some a)), .inl v0, .inl v1, .inl v2, .inl v3, .inl v4] h).bind (fun q => zX d tb_L_law 868 ls (q.1.toList ++ []) q.2) else none := (ux_callV (t := [(10, 73, 0, "", "")]) (as := [.inl v0, .inl v1, .inl v2, .inl v3, .inl v4]) (r := []) k_L_law_865 (n := 5) rfl rfl rfl (Nat.le_of_ble_eq_true rfl)).trans (zfb_1 _ _)
theorem k_L_law_868 : zlk tb_L_law 868 = some (.aload_n 2, 1, 0, []) := kj_L_law_15 (by decide) rfl
theorem u_L_law_868 {d : Nat} {st : List zV} {h : zH} {l0 l1 l3 : Option zV} {x : (Option Nat)} : zX d tb_L_law 868 [l0, l1, some (.inr (.inr x)), l3] st h = zX d tb_L_law 869 [l0, l1, some (.inr (.inr x)), l3] (.inr (.inr x) :: st) h := (zX_unf (o := (.aload_n 2, 1, 0, [])) k_L_law_868).trans rfl
theorem k_L_law_869 : zlk tb_L_law 869 = some (.aload_n 0, 1, 0, []) := kj_L_law_15 (by decide) rfl
theorem u_L_law_869 {d : Nat} {st : List zV} {h : zH} {l1 l2 l3 : Option zV} {x : (Option Nat)} : zX d tb_L_law 869 [some (.inr (.inr x)), l1, l2, l3] st h = zX d tb_L_law 870 [some (.inr (.inr x)), l1, l2, l3] (.inr (.inr x) :: st) h := (zX_unf (o := (.aload_n 0, 1, 0, [])) k_L_law_869).trans rfl
theorem k_L_law_870 : zlk tb_L_law 870 = some (.iload_n 3, 1, 0, []) := kj_L_law_15 (by decide) rfl
theorem u_L_law_870 {d : Nat} {st : List zV} {h : zH} {l0 l1 l2 : Option zV} {x : Int32} : zX d tb_L_law 870 [l0, l1, l2, some (.inl x)] st h = zX d tb_L_law 871 [l0, l1, l2, some (.inl x)] (.inl x :: st) h := (zX_unf (o := (.iload_n 3, 1, 0, [])) k_L_law_870).trans rfl
theorem k_L_law_871 : zlk tb_L_law 871 = some (.iconst 1, 1, 0, []) := kj_L_law_15 (by decide) rfl
theorem u_L_law_871 {d : Nat} {ls : zL} {st : List zV} {h : zH} : zX d tb_L_law 871 ls st h = zX d tb_L_law 872 ls (.inl 1 :: st) h := (zX_unf (o := (.iconst 1, 1, 0, [])) k_L_law_871).trans rfl
theorem k_L_law_872 : zlk tb_L_law 872 = some (.iadd, 1, 0, []) := kj_L_law_15 (by decide) rfl
theorem u_L_law_872 {d : Nat} {ls : zL} {st : List zV} {h : zH} {x y : Int32} : zX d tb_L_law 872 ls (.inl y :: .inl x :: st) h = zX d tb_L_law 873 ls (.inl (x + y) :: st) h := (zX_unf (o := (.iadd, 1, 0, [])) k_L_law_872).trans rfl
theorem k_L_law_873 : zlk tb_L_law 873 = some (.iaload, 1, 0, []) := kj_L_law_15 (by decide) rfl
theorem u_L_law_873 {d : Nat} {ls : zL} {st : List zV} {h : zH} {a : Nat} {i : Int32} : zX d tb_L_law 873 ls (.inl i :: .inr (.inr (some a)) :: st) h = if (zk h a).1 = 12 ∨ (zk h a).1 = 16 then (zix i (zk h a).2).bind fun j => zX d tb_L_law 874 ls (.inl (zi h a j) :: st) h else none := ux_ald k_L_law_873
theorem k_L_law_874 : zlk tb_L_law 874 = some (.aload_n 0, 1, 0, []) := kj_L_law_15 (by decide) rfl
theorem u_L_law_874 {d : Nat} {st : List zV} {h : zH} {l1 l2 l3 : Option zV} {x : (Option Nat)} : zX d tb_L_law 874 [some (.inr (.inr x)), l1, l2, l3] st h = zX d tb_L_law 875 [some (.inr (.inr x)), l1, l2, l3] (.inr (.inr x) :: st) h := (zX_unf (o := (.aload_n 0, 1, 0, [])) k_L_law_874).trans rfl
theorem k_L_law_875 : zlk tb_L_law 875 = some (.iload_n 3, 1, 0, []) := kj_L_law_15 (by decide) rfl
theorem u_L_law_875 {d : Nat} {st : List zV} {h : zH} {l0 l1 l2 : Option zV} {x : Int32} : zX d tb_L_law 875 [l0, l1, l2, some (.inl x)] st h = zX d tb_L_law 876 [l0, l1, l2, some (.inl x)] (.inl x :: st) h := (zX_unf (o := (.iload_n 3, 1, 0, [])) k_L_law_875).trans rfl
theorem k_L_law_876 : zlk tb_L_law 876 = some (.iconst 2, 1, 0, []) := kj_L_law_15 (by decide) rfl
theorem u_L_law_876 {d : Nat} {ls : zL} {st : List zV} {h : zH} : zX d tb_L_law 876 ls st h = zX d tb_L_law 877 ls (.inl 2 :: st) h := (zX_unf (o := (.iconst 2, 1, 0, [])) k_L_law_876).trans rfl
theorem k_L_law_877 : zlk tb_L_law 877 = some (.iadd, 1, 0, []) := kj_L_law_15 (by decide) rfl
theorem u_L_law_877 {d : Nat} {ls : zL} {st : List zV} {h : zH} {x y : Int32} : zX d tb_L_law 877 ls (.inl y :: .inl x :: st) h = zX d tb_L_law 878 ls (.inl (x + y) :: st) h := (zX_unf (o := (.iadd, 1, 0, [])) k_L_law_877).trans rfl
theorem k_L_law_878 : zlk tb_L_law 878 = some (.iaload, 1, 0, []) := kj_L_law_15 (by decide) rfl
theorem u_L_law_878 {d : Nat} {ls : zL} {st : List zV} {h : zH} {a : Nat} {i : Int32} : zX d tb_L_law 878 ls (.inl i :: .inr (.inr (some a)) :: st) h = if (zk h a).1 = 12 ∨ (zk h a).1 = 16 then (zix i (zk h a).2).bind fun j => zX d tb_L_law 879 ls (.inl (zi h a j) :: st) h else none := ux_ald k_L_law_878
theorem k_L_law_879 : zlk tb_L_law 879 = some (.aload_n 0, 1, 0, []) := kj_L_law_15 (by decide) rfl
theorem u_L_law_879 {d : Nat} {st : List zV} {h : zH} {l1 l2 l3 : Option zV} {x : (Option Nat)} : zX d tb_L_law 879 [some (.inr (.inr x)), l1, l2, l3] st h = zX d tb_L_law 880 [some (.inr (.inr x)), l1, l2, l3] (.inr (.inr x) :: st) h := (zX_unf (o := (.aload_n 0, 1, 0, [])) k_L_law_879).trans rfl
theorem k_L_law_880 : zlk tb_L_law 880 = some (.iload_n 3, 1, 0, []) := kj_L_law_15 (by decide) rfl
theorem u_L_law_880 {d : Nat} {st : List zV} {h : zH} {l0 l1 l2 : Option zV} {x : Int32} : zX d tb_L_law 880 [l0, l1, l2, some (.inl x)] st h = zX d tb_L_law 881 [l0, l1, l2, some (.inl x)] (.inl x :: st) h := (zX_unf (o := (.iload_n 3, 1, 0, [])) k_L_law_880).trans rfl
theorem k_L_law_881 : zlk tb_L_law 881 = some (.iconst 3, 1, 0, []) := kj_L_law_15 (by decide) rfl
theorem u_L_law_881 {d : Nat} {ls : zL} {st : List zV} {h : zH} : zX d tb_L_law 881 ls st h = zX d tb_L_law 882 ls (.inl 3 :: st) h := (zX_unf (o := (.iconst 3, 1, 0, [])) k_L_law_881).trans rfl
theorem k_L_law_882 : zlk tb_L_law 882 = some (.iadd, 1, 0, []) := kj_L_law_16 (by decide) rfl
theorem u_L_law_882 {d : Nat} {ls : zL} {st : List zV} {h : zH} {x y : Int32} : zX d tb_L_law 882 ls (.inl y :: .inl x :: st) h = zX d tb_L_law 883 ls (.inl (x + y) :: st) h := (zX_unf (o := (.iadd, 1, 0, [])) k_L_law_882).trans rfl
theorem k_L_law_883 : zlk tb_L_law 883 = some (.iaload, 1, 0, []) := kj_L_law_16 (by decide) rfl
theorem u_L_law_883 {d : Nat} {ls : zL} {st : List zV} {h : zH} {a : Nat} {i : Int32} : zX d tb_L_law 883 ls (.inl i :: .inr (.inr (some a)) :: st) h = if (zk h a).1 = 12 ∨ (zk h a).1 = 16 then (zix i (zk h a).2).bind fun j => zX d tb_L_law 884 ls (.inl (zi h a j) :: st) h else none := ux_ald k_L_law_883
theorem k_L_law_884 : zlk tb_L_law 884 = some (.aload_n 0, 1, 0, []) := kj_L_law_16 (by decide) rfl
theorem u_L_law_884 {d : Nat} {st : List zV} {h : zH} {l1 l2 l3 : Option zV} {x : (Option Nat)} : zX d tb_L_law 884 [some (.inr (.inr x)), l1, l2, l3] st h = zX d tb_L_law 885 [some (.inr (.inr x)), l1, l2, l3] (.inr (.inr x) :: st) h := (zX_unf (o := (.aload_n 0, 1, 0, [])) k_L_law_884).trans rfl
theorem k_L_law_885 : zlk tb_L_law 885 = some (.iload_n 3, 1, 0, []) := kj_L_law_16 (by decide) rfl
theorem u_L_law_885 {d : Nat} {st : List zV} {h : zH} {l0 l1 l2 : Option zV} {x : Int32} : zX d tb_L_law 885 [l0, l1, l2, some (.inl x)] st h = zX d tb_L_law 886 [l0, l1, l2, some (.inl x)] (.inl x :: st) h := (zX_unf (o := (.iload_n 3, 1, 0, [])) k_L_law_885).trans rfl
theorem k_L_law_886 : zlk tb_L_law 886 = some (.iconst 4, 1, 0, []) := kj_L_law_16 (by decide) rfl
theorem u_L_law_886 {d : Nat} {ls : zL} {st : List zV} {h : zH} : zX d tb_L_law 886 ls st h = zX d tb_L_law 887 ls (.inl 4 :: st) h := (zX_unf (o := (.iconst 4, 1, 0, [])) k_L_law_886).trans rfl
theorem k_L_law_887 : zlk tb_L_law 887 = some (.iadd, 1, 0, []) := kj_L_law_16 (by decide) rfl
theorem u_L_law_887 {d : Nat} {ls : zL} {st : List zV} {h : zH} {x y : Int32} : zX d tb_L_law 887 ls (.inl y :: .inl x :: st) h = zX d tb_L_law 888 ls (.inl (x + y) :: st) h := (zX_unf (o := (.iadd, 1, 0, [])) k_L_law_887).trans rfl
theorem k_L_law_888 : zlk tb_L_law 888 = some (.iaload, 1, 0, []) := kj_L_law_16 (by decide) rfl
theorem u_L_law_888 {d : Nat} {ls : zL} {st : List zV} {h : zH} {a : Nat} {i : Int32} : zX d tb_L_law 888 ls (.inl i :: .inr (.inr (some a)) :: st) h = if (zk h a).1 = 12 ∨ (zk h a).1 = 16 then (zix i (zk h a).2).bind fun j => zX d tb_L_law 889 ls (.inl (zi h a j) :: st) h else none := ux_ald k_L_law_888
theorem k_L_law_889 : zlk tb_L_law 889 = some (.aload_n 0, 1, 0, []) := kj_L_law_16 (by decide) rfl
theorem u_L_law_889 {d : Nat} {st : List zV} {h : zH} {l1 l2 l3 : Option zV} {x : (Option Nat)} : zX d tb_L_law 889 [some (.inr (.inr x)), l1, l2, l3] st h = zX d tb_L_law 890 [some (.inr (.inr x)), l1, l2, l3] (.inr (.inr x) :: st) h := (zX_unf (o := (.aload_n 0, 1, 0, [])) k_L_law_889).trans rfl
theorem k_L_law_890 : zlk tb_L_law 890 = some (.iload_n 3, 1, 0, []) := kj_L_law_16 (by decide) rfl
theorem u_L_law_890 {d : Nat} {st : List zV} {h : zH} {l0 l1 l2 : Option zV} {x : Int32} : zX d tb_L_law 890 [l0, l1, l2, some (.inl x)] st h = zX d tb_L_law 891 [l0, l1, l2, some (.inl x)] (.inl x :: st) h := (zX_unf (o := (.iload_n 3, 1, 0, [])) k_L_law_890).trans rfl
theorem k_L_law_891 : zlk tb_L_law 891 = some (.iconst 5, 1, 0, []) := kj_L_law_16 (by decide) rfl
theorem u_L_law_891 {d : Nat} {ls : zL} {st : List zV} {h : zH} : zX d tb_L_law 891 ls st h = zX d tb_L_law 892 ls (.inl 5 :: st) h := (zX_unf (o := (.iconst 5, 1, 0, [])) k_L_law_891).trans rfl
theorem k_L_law_892 : zlk tb_L_law 892 = some (.iadd, 1, 0, []) := kj_L_law_16 (by decide) rfl
theorem u_L_law_892 {d : Nat} {ls : zL} {st : List zV} {h : zH} {x y : Int32} : zX d tb_L_law 892 ls (.inl y :: .inl x :: st) h = zX d tb_L_law 893 ls (.inl (x + y) :: st) h := (zX_unf (o := (.iadd, 1, 0, [])) k_L_law_892).trans rfl
theorem k_L_law_893 : zlk tb_L_law 893 = some (.iaload, 1, 0, []) := kj_L_law_16 (by decide) rfl
theorem u_L_law_893 {d : Nat} {ls : zL} {st : List zV} {h : zH} {a : Nat} {i : Int32} : zX d tb_L_law 893 ls (.inl i :: .inr (.inr (some a)) :: st) h = if (zk h a).1 = 12 ∨ (zk h a).1 = 16 then (zix i (zk h a).2).bind fun j => zX d tb_L_law 894 ls (.inl (zi h a j) :: st) h else none := ux_ald k_L_law_893
theorem k_L_law_894 : zlk tb_L_law 894 = some (.invokevirtual 91, 3, 5, [(11, 135, 0, "", "")]) := kj_L_law_16 (by decide) rfl
theorem u_L_law_894 {d : Nat} {ls : zL} {h : zH} {a : Nat} {v0 : Int32} {v1 : Int32} {v2 : Int32} {v3 : Int32} {v4 : Int32} {r0 : zV} : zX d tb_L_law 894 ls [.inl v4, .inl v3, .inl v2, .inl v1, .inl v0, .inr (.inr (some a)), r0] h = if 11 = (zk h a).1 then (zcall (zP zM) d 135 [.inr (.inr (some a)), .inl v0, .inl v1, .inl v2, .inl v3, .inl v4] h).bind (fun q => zX d tb_L_law 897 ls (q.1.toList ++ [r0]) q.2) else none := (ux_callV (t := [(11, 135, 0, "", "")]) (as := [.inl v0, .inl v1, .inl v2, .inl v3, .inl v4]) (r := [r0]) k_L_law_894 (n := 5) rfl rfl rfl (Nat.le_of_ble_eq_true rfl)).trans (zfb_1 _ _)
theorem k_L_law_897 : zlk tb_L_law 897 = some (.if_icmp .eq 133, 3, 0, []) := kj_L_law_16 (by decide) rfl
theorem u_L_law_897 {d : Nat} {ls : zL} {st : List zV} {h : zH} {x y : Int32} : zX d tb_L_law 897 ls (.inl y :: .inl x :: st) h = if x = y then zX d tb_L_law 1030 ls st h else zX d tb_L_law 900 ls st h := ux_ic_eq k_L_law_897 (by decide)
theorem k_L_law_900 : zlk tb_L_law 900 = some (.iconst 0, 1, 0, []) := kj_L_law_16 (by decide) rfl
theorem u_L_law_900 {d : Nat} {ls : zL} {st : List zV} {h : zH} : zX d tb_L_law 900 ls st h = zX d tb_L_law 901 ls (.inl 0 :: st) h := (zX_unf (o := (.iconst 0, 1, 0, [])) k_L_law_900).trans rfl
theorem k_L_law_901 : zlk tb_L_law 901 = some (.ireturn, 1, 1, []) := kj_L_law_16 (by decide) rfl
theorem u_L_law_901 {d : Nat} {ls : zL} {h : zH} {v : Int32} : zX d tb_L_law 901 ls [.inl v] h = if v = 0 ∨ v = 1 then some (some (.inl v), h) else none := ux_zret k_L_law_901
theorem k_L_law_902 : zlk tb_L_law 902 = some (.aload_n 1, 1, 0, []) := kj_L_law_16 (by decide) rfl
theorem u_L_law_902 {d : Nat} {st : List zV} {h : zH} {l0 l2 l3 : Option zV} {x : (Option Nat)} : zX d tb_L_law 902 [l0, some (.inr (.inr x)), l2, l3] st h = zX d tb_L_law 903 [l0, some (.inr (.inr x)), l2, l3] (.inr (.inr x) :: st) h := (zX_unf (o := (.aload_n 1, 1, 0, [])) k_L_law_902).trans rfl
theorem k_L_law_903 : zlk tb_L_law 903 = some (.aload_n 0, 1, 0, []) := kj_L_law_16 (by decide) rfl
theorem u_L_law_903 {d : Nat} {st : List zV} {h : zH} {l1 l2 l3 : Option zV} {x : (Option Nat)} : zX d tb_L_law 903 [some (.inr (.inr x)), l1, l2, l3] st h = zX d tb_L_law 904 [some (.inr (.inr x)), l1, l2, l3] (.inr (.inr x) :: st) h := (zX_unf (o := (.aload_n 0, 1, 0, [])) k_L_law_903).trans rfl
theorem k_L_law_904 : zlk tb_L_law 904 = some (.iload_n 3, 1, 0, []) := kj_L_law_16 (by decide) rfl
theorem u_L_law_904 {d : Nat} {st : List zV} {h : zH} {l0 l1 l2 : Option zV} {x : Int32} : zX d tb_L_law 904 [l0, l1, l2, some (.inl x)] st h = zX d tb_L_law 905 [l0, l1, l2, some (.inl x)] (.inl x :: st) h := (zX_unf (o := (.iload_n 3, 1, 0, [])) k_L_law_904).trans rfl
theorem k_L_law_905 : zlk tb_L_law 905 = some (.iconst 1, 1, 0, []) := kj_L_law_16 (by decide) rfl
theorem u_L_law_905 {d : Nat} {ls : zL} {st : List zV} {h : zH} : zX d tb_L_law 905 ls st h = zX d tb_L_law 906 ls (.inl 1 :: st) h := (zX_unf (o := (.iconst 1, 1, 0, [])) k_L_law_905).trans rfl
theorem k_L_law_906 : zlk tb_L_law 906 = some (.iadd, 1, 0, []) := kj_L_law_16 (by decide) rfl
theorem u_L_law_906 {d : Nat} {ls : zL} {st : List zV} {h : zH} {x y : Int32} : zX d tb_L_law 906 ls (.inl y :: .inl x :: st) h = zX d tb_L_law 907 ls (.inl (x + y) :: st) h := (zX_unf (o := (.iadd, 1, 0, [])) k_L_law_906).trans rfl
theorem k_L_law_907 : zlk tb_L_law 907 = some (.iaload, 1, 0, []) := kj_L_law_16 (by decide) rfl
theorem u_L_law_907 {d : Nat} {ls : zL} {st : List zV} {h : zH} {a : Nat} {i : Int32} : zX d tb_L_law 907 ls (.inl i :: .inr (.inr (some a)) :: st) h = if (zk h a).1 = 12 ∨ (zk h a).1 = 16 then (zix i (zk h a).2).bind fun j => zX d tb_L_law 908 ls (.inl (zi h a j) :: st) h else none := ux_ald k_L_law_907
theorem k_L_law_908 : zlk tb_L_law 908 = some (.invokevirtual 92, 3, 1, [(10, 74, 0, "", "")]) := kj_L_law_16 (by decide) rfl
theorem u_L_law_908 {d : Nat} {ls : zL} {h : zH} {a : Nat} {v0 : Int32} : zX d tb_L_law 908 ls [.inl v0, .inr (.inr (some a))] h = if 10 = (zk h a).1 then (zcall (zP zM) d 74 [.inr (.inr (some a)), .inl v0] h).bind (fun q => zX d tb_L_law 911 ls (q.1.toList ++ []) q.2) else none := (ux_callV (t := [(10, 74, 0, "", "")]) (as := [.inl v0]) (r := []) k_L_law_908 (n := 1) rfl rfl rfl (Nat.le_of_ble_eq_true rfl)).trans (zfb_1 _ _)
theorem k_L_law_911 : zlk tb_L_law 911 = some (.aload_n 2, 1, 0, []) := kj_L_law_16 (by decide) rfl
theorem u_L_law_911 {d : Nat} {st : List zV} {h : zH} {l0 l1 l3 : Option zV} {x : (Option Nat)} : zX d tb_L_law 911 [l0, l1, some (.inr (.inr x)), l3] st h = zX d tb_L_law 912 [l0, l1, some (.inr (.inr x)), l3] (.inr (.inr x) :: st) h := (zX_unf (o := (.aload_n 2, 1, 0, [])) k_L_law_911).trans rfl
theorem k_L_law_912 : zlk tb_L_law 912 = some (.aload_n 0, 1, 0, []) := kj_L_law_16 (by decide) rfl
theorem u_L_law_912 {d : Nat} {st : List zV} {h : zH} {l1 l2 l3 : Option zV} {x : (Option Nat)} : zX d tb_L_law 912 [some (.inr (.inr x)), l1, l2, l3] st h = zX d tb_L_law 913 [some (.inr (.inr x)), l1, l2, l3] (.inr (.inr x) :: st) h := (zX_unf (o := (.aload_n 0, 1, 0, [])) k_L_law_912).trans rfl
theorem k_L_law_913 : zlk tb_L_law 913 = some (.iload_n 3, 1, 0, []) := kj_L_law_16 (by decide) rfl
theorem u_L_law_913 {d : Nat} {st : List zV} {h : zH} {l0 l1 l2 : Option zV} {x : Int32} : zX d tb_L_law 913 [l0, l1, l2, some (.inl x)] st h = zX d tb_L_law 914 [l0, l1, l2, some (.inl x)] (.inl x :: st) h := (zX_unf (o := (.iload_n 3, 1, 0, [])) k_L_law_913).trans rfl
theorem k_L_law_914 : zlk tb_L_law 914 = some (.iconst 1, 1, 0, []) := kj_L_law_16 (by decide) rfl
theorem u_L_law_914 {d : Nat} {ls : zL} {st : List zV} {h : zH} : zX d tb_L_law 914 ls st h = zX d tb_L_law 915 ls (.inl 1 :: st) h := (zX_unf (o := (.iconst 1, 1, 0, [])) k_L_law_914).trans rfl
theorem k_L_law_915 : zlk tb_L_law 915 = some (.iadd, 1, 0, []) := kj_L_law_16 (by decide) rfl
theorem u_L_law_915 {d : Nat} {ls : zL} {st : List zV} {h : zH} {x y : Int32} : zX d tb_L_law 915 ls (.inl y :: .inl x :: st) h = zX d tb_L_law 916 ls (.inl (x + y) :: st) h := (zX_unf (o := (.iadd, 1, 0, [])) k_L_law_915).trans rfl
theorem k_L_law_916 : zlk tb_L_law 916 = some (.iaload, 1, 0, []) := kj_L_law_16 (by decide) rfl
theorem u_L_law_916 {d : Nat} {ls : zL} {st : List zV} {h : zH} {a : Nat} {i : Int32} : zX d tb_L_law 916 ls (.inl i :: .inr (.inr (some a)) :: st) h = if (zk h a).1 = 12 ∨ (zk h a).1 = 16 then (zix i (zk h a).2).bind fun j => zX d tb_L_law 917 ls (.inl (zi h a j) :: st) h else none := ux_ald k_L_law_916
theorem k_L_law_917 : zlk tb_L_law 917 = some (.invokevirtual 95, 3, 1, [(11, 137, 0, "", "")]) := kj_L_law_16 (by decide) rfl
theorem u_L_law_917 {d : Nat} {ls : zL} {h : zH} {a : Nat} {v0 : Int32} {r0 : zV} : zX d tb_L_law 917 ls [.inl v0, .inr (.inr (some a)), r0] h = if 11 = (zk h a).1 then (zcall (zP zM) d 137 [.inr (.inr (some a)), .inl v0] h).bind (fun q => zX d tb_L_law 920 ls (q.1.toList ++ [r0]) q.2) else none := (ux_callV (t := [(11, 137, 0, "", "")]) (as := [.inl v0]) (r := [r0]) k_L_law_917 (n := 1) rfl rfl rfl (Nat.le_of_ble_eq_true rfl)).trans (zfb_1 _ _)
theorem k_L_law_920 : zlk tb_L_law 920 = some (.if_icmp .eq 110, 3, 0, []) := kj_L_law_16 (by decide) rfl
theorem u_L_law_920 {d : Nat} {ls : zL} {st : List zV} {h : zH} {x y : Int32} : zX d tb_L_law 920 ls (.inl y :: .inl x :: st) h = if x = y then zX d tb_L_law 1030 ls st h else zX d tb_L_law 923 ls st h := ux_ic_eq k_L_law_920 (by decide)
theorem k_L_law_923 : zlk tb_L_law 923 = some (.iconst 0, 1, 0, []) := kj_L_law_16 (by decide) rfl
theorem u_L_law_923 {d : Nat} {ls : zL} {st : List zV} {h : zH} : zX d tb_L_law 923 ls st h = zX d tb_L_law 924 ls (.inl 0 :: st) h := (zX_unf (o := (.iconst 0, 1, 0, [])) k_L_law_923).trans rfl
theorem k_L_law_924 : zlk tb_L_law 924 = some (.ireturn, 1, 1, []) := kj_L_law_16 (by decide) rfl
theorem u_L_law_924 {d : Nat} {ls : zL} {h : zH} {v : Int32} : zX d tb_L_law 924 ls [.inl v] h = if v = 0 ∨ v = 1 then some (some (.inl v), h) else none := ux_zret k_L_law_924
theorem k_L_law_925 : zlk tb_L_law 925 = some (.aload_n 1, 1, 0, []) := kj_L_law_16 (by decide) rfl
theorem u_L_law_925 {d : Nat} {st : List zV} {h : zH} {l0 l2 l3 : Option zV} {x : (Option Nat)} : zX d tb_L_law 925 [l0, some (.inr (.inr x)), l2, l3] st h = zX d tb_L_law 926 [l0, some (.inr (.inr x)), l2, l3] (.inr (.inr x) :: st) h := (zX_unf (o := (.aload_n 1, 1, 0, [])) k_L_law_925).trans rfl
theorem k_L_law_926 : zlk tb_L_law 926 = some (.aload_n 0, 1, 0, []) := kj_L_law_16 (by decide) rfl
theorem u_L_law_926 {d : Nat} {st : List zV} {h : zH} {l1 l2 l3 : Option zV} {x : (Option Nat)} : zX d tb_L_law 926 [some (.inr (.inr x)), l1, l2, l3] st h = zX d tb_L_law 927 [some (.inr (.inr x)), l1, l2, l3] (.inr (.inr x) :: st) h := (zX_unf (o := (.aload_n 0, 1, 0, [])) k_L_law_926).trans rfl
theorem k_L_law_927 : zlk tb_L_law 927 = some (.iload_n 3, 1, 0, []) := kj_L_law_16 (by decide) rfl
theorem u_L_law_927 {d : Nat} {st : List zV} {h : zH} {l0 l1 l2 : Option zV} {x : Int32} : zX d tb_L_law 927 [l0, l1, l2, some (.inl x)] st h = zX d tb_L_law 928 [l0, l1, l2, some (.inl x)] (.inl x :: st) h := (zX_unf (o := (.iload_n 3, 1, 0, [])) k_L_law_927).trans rfl
theorem k_L_law_928 : zlk tb_L_law 928 = some (.iconst 1, 1, 0, []) := kj_L_law_16 (by decide) rfl
theorem u_L_law_928 {d : Nat} {ls : zL} {st : List zV} {h : zH} : zX d tb_L_law 928 ls st h = zX d tb_L_law 929 ls (.inl 1 :: st) h := (zX_unf (o := (.iconst 1, 1, 0, [])) k_L_law_928).trans rfl
theorem k_L_law_929 : zlk tb_L_law 929 = some (.iadd, 1, 0, []) := kj_L_law_16 (by decide) rfl
theorem u_L_law_929 {d : Nat} {ls : zL} {st : List zV} {h : zH} {x y : Int32} : zX d tb_L_law 929 ls (.inl y :: .inl x :: st) h = zX d tb_L_law 930 ls (.inl (x + y) :: st) h := (zX_unf (o := (.iadd, 1, 0, [])) k_L_law_929).trans rfl
theorem k_L_law_930 : zlk tb_L_law 930 = some (.iaload, 1, 0, []) := kj_L_law_16 (by decide) rfl
theorem u_L_law_930 {d : Nat} {ls : zL} {st : List zV} {h : zH} {a : Nat} {i : Int32} : zX d tb_L_law 930 ls (.inl i :: .inr (.inr (some a)) :: st) h = if (zk h a).1 = 12 ∨ (zk h a).1 = 16 then (zix i (zk h a).2).bind fun j => zX d tb_L_law 931 ls (.inl (zi h a j) :: st) h else none := ux_ald k_L_law_930
theorem k_L_law_931 : zlk tb_L_law 931 = some (.invokevirtual 96, 3, 1, [(10, 75, 0, "", "")]) := kj_L_law_16 (by decide) rfl
theorem u_L_law_931 {d : Nat} {ls : zL} {h : zH} {a : Nat} {v0 : Int32} : zX d tb_L_law 931 ls [.inl v0, .inr (.inr (some a))] h = if 10 = (zk h a).1 then (zcall (zP zM) d 75 [.inr (.inr (some a)), .inl v0] h).bind (fun q => zX d tb_L_law 934 ls (q.1.toList ++ []) q.2) else none := (ux_callV (t := [(10, 75, 0, "", "")]) (as := [.inl v0]) (r := []) k_L_law_931 (n := 1) rfl rfl rfl (Nat.le_of_ble_eq_true rfl)).trans (zfb_1 _ _)
theorem k_L_law_934 : zlk tb_L_law 934 = some (.aload_n 2, 1, 0, []) := kj_L_law_17 (by decide) rfl
theorem u_L_law_934 {d : Nat} {st : List zV} {h : zH} {l0 l1 l3 : Option zV} {x : (Option Nat)} : zX d tb_L_law 934 [l0, l1, some (.inr (.inr x)), l3] st h = zX d tb_L_law 935 [l0, l1, some (.inr (.inr x)), l3] (.inr (.inr x) :: st) h := (zX_unf (o := (.aload_n 2, 1, 0, [])) k_L_law_934).trans rfl
theorem k_L_law_935 : zlk tb_L_law 935 = some (.aload_n 0, 1, 0, []) := kj_L_law_17 (by decide) rfl
theorem u_L_law_935 {d : Nat} {st : List zV} {h : zH} {l1 l2 l3 : Option zV} {x : (Option Nat)} : zX d tb_L_law 935 [some (.inr (.inr x)), l1, l2, l3] st h = zX d tb_L_law 936 [some (.inr (.inr x)), l1, l2, l3] (.inr (.inr x) :: st) h := (zX_unf (o := (.aload_n 0, 1, 0, [])) k_L_law_935).trans rfl
theorem k_L_law_936 : zlk tb_L_law 936 = some (.iload_n 3, 1, 0, []) := kj_L_law_17 (by decide) rfl
theorem u_L_law_936 {d : Nat} {st : List zV} {h : zH} {l0 l1 l2 : Option zV} {x : Int32} : zX d tb_L_law 936 [l0, l1, l2, some (.inl x)] st h = zX d tb_L_law 937 [l0, l1, l2, some (.inl x)] (.inl x :: st) h := (zX_unf (o := (.iload_n 3, 1, 0, [])) k_L_law_936).trans rfl
theorem k_L_law_937 : zlk tb_L_law 937 = some (.iconst 1, 1, 0, []) := kj_L_law_17 (by decide) rfl
theorem u_L_law_937 {d : Nat} {ls : zL} {st : List zV} {h : zH} : zX d tb_L_law 937 ls st h = zX d tb_L_law 938 ls (.inl 1 :: st) h := (zX_unf (o := (.iconst 1, 1, 0, [])) k_L_law_937).trans rfl
theorem k_L_law_938 : zlk tb_L_law 938 = some (.iadd, 1, 0, []) := kj_L_law_17 (by decide) rfl
theorem u_L_law_938 {d : Nat} {ls : zL} {st : List zV} {h : zH} {x y : Int32} : zX d tb_L_law 938 ls (.inl y :: .inl x :: st) h = zX d tb_L_law 939 ls (.inl (x + y) :: st) h := (zX_unf (o := (.iadd, 1, 0, [])) k_L_law_938).trans rfl
theorem k_L_law_939 : zlk tb_L_law 939 = some (.iaload, 1, 0, []) := kj_L_law_17 (by decide) rfl
theorem u_L_law_939 {d : Nat} {ls : zL} {st : List zV} {h : zH} {a : Nat} {i : Int32} : zX d tb_L_law 939 ls (.inl i :: .inr (.inr (some a)) :: st) h = if (zk h a).1 = 12 ∨ (zk h a).1 = 16 then (zix i (zk h a).2).bind fun j => zX d tb_L_law 940 ls (.inl (zi h a j) :: st) h else none := ux_ald k_L_law_939
theorem k_L_law_940 : zlk tb_L_law 940 = some (.invokevirtual 99, 3, 1, [(11, 138, 0, "", "")]) := kj_L_law_17 (by decide) rfl
theorem u_L_law_940 {d : Nat} {ls : zL} {h : zH} {a : Nat} {v0 : Int32} {r0 : zV} : zX d tb_L_law 940 ls [.inl v0, .inr (.inr (some a)), r0] h = if 11 = (zk h a).1 then (zcall (zP zM) d 138 [.inr (.inr (some a)), .inl v0] h).bind (fun q => zX d tb_L_law 943 ls (q.1.toList ++ [r0]) q.2) else none := (ux_callV (t := [(11, 138, 0, "", "")]) (as := [.inl v0]) (r := [r0]) k_L_law_940 (n := 1) rfl rfl rfl (Nat.le_of_ble_eq_true rfl)).trans (zfb_1 _ _)
theorem k_L_law_943 : zlk tb_L_law 943 = some (.if_icmp .eq 87, 3, 0, []) := kj_L_law_17 (by decide) rfl
theorem u_L_law_943 {d : Nat} {ls : zL} {st : List zV} {h : zH} {x y : Int32} : zX d tb_L_law 943 ls (.inl y :: .inl x :: st) h = if x = y then zX d tb_L_law 1030 ls st h else zX d tb_L_law 946 ls st h := ux_ic_eq k_L_law_943 (by decide)
theorem k_L_law_946 : zlk tb_L_law 946 = some (.iconst 0, 1, 0, []) := kj_L_law_17 (by decide) rfl
theorem u_L_law_946 {d : Nat} {ls : zL} {st : List zV} {h : zH} : zX d tb_L_law 946 ls st h = zX d tb_L_law 947 ls (.inl 0 :: st) h := (zX_unf (o := (.iconst 0, 1, 0, [])) k_L_law_946).trans rfl
theorem k_L_law_947 : zlk tb_L_law 947 = some (.ireturn, 1, 1, []) := kj_L_law_17 (by decide) rfl
theorem u_L_law_947 {d : Nat} {ls : zL} {h : zH} {v : Int32} : zX d tb_L_law 947 ls [.inl v] h = if v = 0 ∨ v = 1 then some (some (.inl v), h) else none := ux_zret k_L_law_947
theorem k_L_law_948 : zlk tb_L_law 948 = some (.aload_n 1, 1, 0, []) := kj_L_law_17 (by decide) rfl
theorem u_L_law_948 {d : Nat} {st : List zV} {h : zH} {l0 l2 l3 : Option zV} {x : (Option Nat)} : zX d tb_L_law 948 [l0, some (.inr (.inr x)), l2, l3] st h = zX d tb_L_law 949 [l0, some (.inr (.inr x)), l2, l3] (.inr (.inr x) :: st) h := (zX_unf (o := (.aload_n 1, 1, 0, [])) k_L_law_948).trans rfl
theorem k_L_law_949 : zlk tb_L_law 949 = some (.aload_n 0, 1, 0, []) := kj_L_law_17 (by decide) rfl
theorem u_L_law_949 {d : Nat} {st : List zV} {h : zH} {l1 l2 l3 : Option zV} {x : (Option Nat)} : zX d tb_L_law 949 [some (.inr (.inr x)), l1, l2, l3] st h = zX d tb_L_law 950 [some (.inr (.inr x)), l1, l2, l3] (.inr (.inr x) :: st) h := (zX_unf (o := (.aload_n 0, 1, 0, [])) k_L_law_949).trans rfl
theorem k_L_law_950 : zlk tb_L_law 950 = some (.iload_n 3, 1, 0, []) := kj_L_law_17 (by decide) rfl
theorem u_L_law_950 {d : Nat} {st : List zV} {h : zH} {l0 l1 l2 : Option zV} {x : Int32} : zX d tb_L_law 950 [l0, l1, l2, some (.inl x)] st h = zX d tb_L_law 951 [l0, l1, l2, some (.inl x)] (.inl x :: st) h := (zX_unf (o := (.iload_n 3, 1, 0, [])) k_L_law_950).trans rfl
theorem k_L_law_951 : zlk tb_L_law 951 = some (.iconst 1, 1, 0, []) := kj_L_law_17 (by decide) rfl
theorem u_L_law_951 {d : Nat} {ls : zL} {st : List zV} {h : zH} : zX d tb_L_law 951 ls st h = zX d tb_L_law 952 ls (.inl 1 :: st) h := (zX_unf (o := (.iconst 1, 1, 0, [])) k_L_law_951).trans rfl
theorem k_L_law_952 : zlk tb_L_law 952 = some (.iadd, 1, 0, []) := kj_L_law_17 (by decide) rfl
theorem u_L_law_952 {d : Nat} {ls : zL} {st : List zV} {h : zH} {x y : Int32} : zX d tb_L_law 952 ls (.inl y :: .inl x :: st) h = zX d tb_L_law 953 ls (.inl (x + y) :: st) h := (zX_unf (o := (.iadd, 1, 0, [])) k_L_law_952).trans rfl
theorem k_L_law_953 : zlk tb_L_law 953 = some (.iaload, 1, 0, []) := kj_L_law_17 (by decide) rfl
theorem u_L_law_953 {d : Nat} {ls : zL} {st : List zV} {h : zH} {a : Nat} {i : Int32} : zX d tb_L_law 953 ls (.inl i :: .inr (.inr (some a)) :: st) h = if (zk h a).1 = 12 ∨ (zk h a).1 = 16 then (zix i (zk h a).2).bind fun j => zX d tb_L_law 954 ls (.inl (zi h a j) :: st) h else none := ux_ald k_L_law_953
theorem k_L_law_954 : zlk tb_L_law 954 = some (.aload_n 0, 1, 0, []) := kj_L_law_17 (by decide) rfl
theorem u_L_law_954 {d : Nat} {st : List zV} {h : zH} {l1 l2 l3 : Option zV} {x : (Option Nat)} : zX d tb_L_law 954 [some (.inr (.inr x)), l1, l2, l3] st h = zX d tb_L_law 955 [some (.inr (.inr x)), l1, l2, l3] (.inr (.inr x) :: st) h := (zX_unf (o := (.aload_n 0, 1, 0, [])) k_L_law_954).trans rfl
theorem k_L_law_955 : zlk tb_L_law 955 = some (.iload_n 3, 1, 0, []) := kj_L_law_17 (by decide) rfl
theorem u_L_law_955 {d : Nat} {st : List zV} {h : zH} {l0 l1 l2 : Option zV} {x : Int32} : zX d tb_L_law 955 [l0, l1, l2, some (.inl x)] st h = zX d tb_L_law 956 [l0, l1, l2, some (.inl x)] (.inl x :: st) h := (zX_unf (o := (.iload_n 3, 1, 0, [])) k_L_law_955).trans rfl
theorem k_L_law_956 : zlk tb_L_law 956 = some (.iconst 2, 1, 0, []) := kj_L_law_17 (by decide) rfl
theorem u_L_law_956 {d : Nat} {ls : zL} {st : List zV} {h : zH} : zX d tb_L_law 956 ls st h = zX d tb_L_law 957 ls (.inl 2 :: st) h := (zX_unf (o := (.iconst 2, 1, 0, [])) k_L_law_956).trans rfl
theorem k_L_law_957 : zlk tb_L_law 957 = some (.iadd, 1, 0, []) := kj_L_law_17 (by decide) rfl
theorem u_L_law_957 {d : Nat} {ls : zL} {st : List zV} {h : zH} {x y : Int32} : zX d tb_L_law 957 ls (.inl y :: .inl x :: st) h = zX d tb_L_law 958 ls (.inl (x + y) :: st) h := (zX_unf (o := (.iadd, 1, 0, [])) k_L_law_957).trans rfl
theorem k_L_law_958 : zlk tb_L_law 958 = some (.iaload, 1, 0, []) := kj_L_law_17 (by decide) rfl
theorem u_L_law_958 {d : Nat} {ls : zL} {st : List zV} {h : zH} {a : Nat} {i : Int32} : zX d tb_L_law 958 ls (.inl i :: .inr (.inr (some a)) :: st) h = if (zk h a).1 = 12 ∨ (zk h a).1 = 16 then (zix i (zk h a).2).bind fun j => zX d tb_L_law 959 ls (.inl (zi h a j) :: st) h else none := ux_ald k_L_law_958
theorem k_L_law_959 : zlk tb_L_law 959 = some (.invokevirtual 100, 3, 2, [(10, 76, 0, "", "")]) := kj_L_law_17 (by decide) rfl
theorem u_L_law_959 {d : Nat} {ls : zL} {h : zH} {a : Nat} {v0 : Int32} {v1 : Int32} : zX d tb_L_law 959 ls [.inl v1, .inl v0, .inr (.inr (some a))] h = if 10 = (zk h a).1 then (zcall (zP zM) d 76 [.inr (.inr (some a)), .inl v0, .inl v1] h).bind (fun q => zX d tb_L_law 962 ls (q.1.toList ++ []) q.2) else none := (ux_callV (t := [(10, 76, 0, "", "")]) (as := [.inl v0, .inl v1]) (r := []) k_L_law_959 (n := 2) rfl rfl rfl (Nat.le_of_ble_eq_true rfl)).trans (zfb_1 _ _)
theorem k_L_law_962 : zlk tb_L_law 962 = some (.aload_n 2, 1, 0, []) := kj_L_law_17 (by decide) rfl
theorem u_L_law_962 {d : Nat} {st : List zV} {h : zH} {l0 l1 l3 : Option zV} {x : (Option Nat)} : zX d tb_L_law 962 [l0, l1, some (.inr (.inr x)), l3] st h = zX d tb_L_law 963 [l0, l1, some (.inr (.inr x)), l3] (.inr (.inr x) :: st) h := (zX_unf (o := (.aload_n 2, 1, 0, [])) k_L_law_962).trans rfl
theorem k_L_law_963 : zlk tb_L_law 963 = some (.aload_n 0, 1, 0, []) := kj_L_law_17 (by decide) rfl
theorem u_L_law_963 {d : Nat} {st : List zV} {h : zH} {l1 l2 l3 : Option zV} {x : (Option Nat)} : zX d tb_L_law 963 [some (.inr (.inr x)), l1, l2, l3] st h = zX d tb_L_law 964 [some (.inr (.inr x)), l1, l2, l3] (.inr (.inr x) :: st) h := (zX_unf (o := (.aload_n 0, 1, 0, [])) k_L_law_963).trans rfl
theorem k_L_law_964 : zlk tb_L_law 964 = some (.iload_n 3, 1, 0, []) := kj_L_law_17 (by decide) rfl
theorem u_L_law_964 {d : Nat} {st : List zV} {h : zH} {l0 l1 l2 : Option zV} {x : Int32} : zX d tb_L_law 964 [l0, l1, l2, some (.inl x)] st h = zX d tb_L_law 965 [l0, l1, l2, some (.inl x)] (.inl x :: st) h := (zX_unf (o := (.iload_n 3, 1, 0, [])) k_L_law_964).trans rfl
theorem k_L_law_965 : zlk tb_L_law 965 = some (.iconst 1, 1, 0, []) := kj_L_law_17 (by decide) rfl
theorem u_L_law_965 {d : Nat} {ls : zL} {st : List zV} {h : zH} : zX d tb_L_law 965 ls st h = zX d tb_L_law 966 ls (.inl 1 :: st) h := (zX_unf (o := (.iconst 1, 1, 0, [])) k_L_law_965).trans rfl
theorem k_L_law_966 : zlk tb_L_law 966 = some (.iadd, 1, 0, []) := kj_L_law_17 (by decide) rfl
theorem u_L_law_966 {d : Nat} {ls : zL} {st : List zV} {h : zH} {x y : Int32} : zX d tb_L_law 966 ls (.inl y :: .inl x :: st) h = zX d tb_L_law 967 ls (.inl (x + y) :: st) h := (zX_unf (o := (.iadd, 1, 0, [])) k_L_law_966).trans rfl
theorem k_L_law_967 : zlk tb_L_law 967 = some (.iaload, 1, 0, []) := kj_L_law_17 (by decide) rfl
theorem u_L_law_967 {d : Nat} {ls : zL} {st : List zV} {h : zH} {a : Nat} {i : Int32} : zX d tb_L_law 967 ls (.inl i :: .inr (.inr (some a)) :: st) h = if (zk h a).1 = 12 ∨ (zk h a).1 = 16 then (zix i (zk h a).2).bind fun j => zX d tb_L_law 968 ls (.inl (zi h a j) :: st) h else none := ux_ald k_L_law_967
theorem k_L_law_968 : zlk tb_L_law 968 = some (.aload_n 0, 1, 0, []) := kj_L_law_17 (by decide) rfl
theorem u_L_law_968 {d : Nat} {st : List zV} {h : zH} {l1 l2 l3 : Option zV} {x : (Option Nat)} : zX d tb_L_law 968 [some (.inr (.inr x)), l1, l2, l3] st h = zX d tb_L_law 969 [some (.inr (.inr x)), l1, l2, l3] (.inr (.inr x) :: st) h := (zX_unf (o := (.aload_n 0, 1, 0, [])) k_L_law_968).trans rfl
theorem k_L_law_969 : zlk tb_L_law 969 = some (.iload_n 3, 1, 0, []) := kj_L_law_17 (by decide) rfl
theorem u_L_law_969 {d : Nat} {st : List zV} {h : zH} {l0 l1 l2 : Option zV} {x : Int32} : zX d tb_L_law 969 [l0, l1, l2, some (.inl x)] st h = zX d tb_L_law 970 [l0, l1, l2, some (.inl x)] (.inl x :: st) h := (zX_unf (o := (.iload_n 3, 1, 0, [])) k_L_law_969).trans rfl
theorem k_L_law_970 : zlk tb_L_law 970 = some (.iconst 2, 1, 0, []) := kj_L_law_17 (by decide) rfl
theorem u_L_law_970 {d : Nat} {ls : zL} {st : List zV} {h : zH} : zX d tb_L_law 970 ls st h = zX d tb_L_law 971 ls (.inl 2 :: st) h := (zX_unf (o := (.iconst 2, 1, 0, [])) k_L_law_970).trans rfl
theorem k_L_law_971 : zlk tb_L_law 971 = some (.iadd, 1, 0, []) := kj_L_law_17 (by decide) rfl
theorem u_L_law_971 {d : Nat} {ls : zL} {st : List zV} {h : zH} {x y : Int32} : zX d tb_L_law 971 ls (.inl y :: .inl x :: st) h = zX d tb_L_law 972 ls (.inl (x + y) :: st) h := (zX_unf (o := (.iadd, 1, 0, [])) k_L_law_971).trans rfl
theorem k_L_law_972 : zlk tb_L_law 972 = some (.iaload, 1, 0, []) := kj_L_law_17 (by decide) rfl
theorem u_L_law_972 {d : Nat} {ls : zL} {st : List zV} {h : zH} {a : Nat} {i : Int32} : zX d tb_L_law 972 ls (.inl i :: .inr (.inr (some a)) :: st) h = if (zk h a).1 = 12 ∨ (zk h a).1 = 16 then (zix i (zk h a).2).bind fun j => zX d tb_L_law 973 ls (.inl (zi h a j) :: st) h else none := ux_ald k_L_law_972
theorem k_L_law_973 : zlk tb_L_law 973 = some (.invokevirtual 103, 3, 2, [(11, 139, 0, "", "")]) := kj_L_law_17 (by decide) rfl
theorem u_L_law_973 {d : Nat} {ls : zL} {h : zH} {a : Nat} {v0 : Int32} {v1 : Int32} {r0 : zV} : zX d tb_L_law 973 ls [.inl v1, .inl v0, .inr (.inr (some a)), r0] h = if 11 = (zk h a).1 then (zcall (zP zM) d 139 [.inr (.inr (some a)), .inl v0, .inl v1] h).bind (fun q => zX d tb_L_law 976 ls (q.1.toList ++ [r0]) q.2) else none := (ux_callV (t := [(11, 139, 0, "", "")]) (as := [.inl v0, .inl v1]) (r := [r0]) k_L_law_973 (n := 2) rfl rfl rfl (Nat.le_of_ble_eq_true rfl)).trans (zfb_1 _ _)
theorem k_L_law_976 : zlk tb_L_law 976 = some (.if_icmp .eq 54, 3, 0, []) := kj_L_law_17 (by decide) rfl
theorem u_L_law_976 {d : Nat} {ls : zL} {st : List zV} {h : zH} {x y : Int32} : zX d tb_L_law 976 ls (.inl y :: .inl x :: st) h = if x = y then zX d tb_L_law 1030 ls st h else zX d tb_L_law 979 ls st h := ux_ic_eq k_L_law_976 (by decide)
theorem k_L_law_979 : zlk tb_L_law 979 = some (.iconst 0, 1, 0, []) := kj_L_law_17 (by decide) rfl
theorem u_L_law_979 {d : Nat} {ls : zL} {st : List zV} {h : zH} : zX d tb_L_law 979 ls st h = zX d tb_L_law 980 ls (.inl 0 :: st) h := (zX_unf (o := (.iconst 0, 1, 0, [])) k_L_law_979).trans rfl
theorem k_L_law_980 : zlk tb_L_law 980 = some (.ireturn, 1, 1, []) := kj_L_law_17 (by decide) rfl
theorem u_L_law_980 {d : Nat} {ls : zL} {h : zH} {v : Int32} : zX d tb_L_law 980 ls [.inl v] h = if v = 0 ∨ v = 1 then some (some (.inl v), h) else none := ux_zret k_L_law_980
theorem k_L_law_981 : zlk tb_L_law 981 = some (.aload_n 1, 1, 0, []) := kj_L_law_17 (by decide) rfl
theorem u_L_law_981 {d : Nat} {st : List zV} {h : zH} {l0 l2 l3 : Option zV} {x : (Option Nat)} : zX d tb_L_law 981 [l0, some (.inr (.inr x)), l2, l3] st h = zX d tb_L_law 982 [l0, some (.inr (.inr x)), l2, l3] (.inr (.inr x) :: st) h := (zX_unf (o := (.aload_n 1, 1, 0, [])) k_L_law_981).trans rfl
theorem k_L_law_982 : zlk tb_L_law 982 = some (.invokevirtual 104, 3, 0, [(10, 77, 0, "", "")]) := kj_L_law_17 (by decide) rfl
theorem u_L_law_982 {d : Nat} {ls : zL} {h : zH} {a : Nat} : zX d tb_L_law 982 ls [.inr (.inr (some a))] h = if 10 = (zk h a).1 then (zcall (zP zM) d 77 [.inr (.inr (some a))] h).bind (fun q => zX d tb_L_law 985 ls (q.1.toList ++ []) q.2) else none := (ux_callV (t := [(10, 77, 0, "", "")]) (as := []) (r := []) k_L_law_982 (n := 0) rfl rfl rfl (Nat.le_of_ble_eq_true rfl)).trans (zfb_1 _ _)
theorem k_L_law_985 : zlk tb_L_law 985 = some (.aload_n 2, 1, 0, []) := kj_L_law_17 (by decide) rfl
theorem u_L_law_985 {d : Nat} {st : List zV} {h : zH} {l0 l1 l3 : Option zV} {x : (Option Nat)} : zX d tb_L_law 985 [l0, l1, some (.inr (.inr x)), l3] st h = zX d tb_L_law 986 [l0, l1, some (.inr (.inr x)), l3] (.inr (.inr x) :: st) h := (zX_unf (o := (.aload_n 2, 1, 0, [])) k_L_law_985).trans rfl
theorem k_L_law_986 : zlk tb_L_law 986 = some (.invokevirtual 108, 3, 0, [(11, 140, 0, "", "")]) := kj_L_law_18 (by decide) rfl
theorem u_L_law_986 {d : Nat} {ls : zL} {h : zH} {a : Nat} {r0 : zV} : zX d tb_L_law 986 ls [.inr (.inr (some a)), r0] h = if 11 = (zk h a).1 then (zcall (zP zM) d 140 [.inr (.inr (some a))] h).bind (fun q => zX d tb_L_law 989 ls (q.1.toList ++ [r0]) q.2) else none := (ux_callV (t := [(11, 140, 0, "", "")]) (as := []) (r := [r0]) k_L_law_986 (n := 0) rfl rfl rfl (Nat.le_of_ble_eq_true rfl)).trans (zfb_1 _ _)
theorem k_L_law_989 : zlk tb_L_law 989 = some (.if_icmp .eq 41, 3, 0, []) := kj_L_law_18 (by decide) rfl
theorem u_L_law_989 {d : Nat} {ls : zL} {st : List zV} {h : zH} {x y : Int32} : zX d tb_L_law 989 ls (.inl y :: .inl x :: st) h = if x = y then zX d tb_L_law 1030 ls st h else zX d tb_L_law 992 ls st h := ux_ic_eq k_L_law_989 (by decide)
theorem k_L_law_992 : zlk tb_L_law 992 = some (.iconst 0, 1, 0, []) := kj_L_law_18 (by decide) rfl
theorem u_L_law_992 {d : Nat} {ls : zL} {st : List zV} {h : zH} : zX d tb_L_law 992 ls st h = zX d tb_L_law 993 ls (.inl 0 :: st) h := (zX_unf (o := (.iconst 0, 1, 0, [])) k_L_law_992).trans rfl
theorem k_L_law_993 : zlk tb_L_law 993 = some (.ireturn, 1, 1, []) := kj_L_law_18 (by decide) rfl
theorem u_L_law_993 {d : Nat} {ls : zL} {h : zH} {v : Int32} : zX d tb_L_law 993 ls [.inl v] h = if v = 0 ∨ v = 1 then some (some (.inl v), h) else none := ux_zret k_L_law_993
theorem k_L_law_994 : zlk tb_L_law 994 = some (.aload_n 1, 1, 0, []) := kj_L_law_18 (by decide) rfl
theorem u_L_law_994 {d : Nat} {st : List zV} {h : zH} {l0 l2 l3 : Option zV} {x : (Option Nat)} : zX d tb_L_law 994 [l0, some (.inr (.inr x)), l2, l3] st h = zX d tb_L_law 995 [l0, some (.inr (.inr x)), l2, l3] (.inr (.inr x) :: st) h := (zX_unf (o := (.aload_n 1, 1, 0, [])) k_L_law_994).trans rfl
theorem k_L_law_995 : zlk tb_L_law 995 = some (.invokevirtual 109, 3, 0, [(10, 78, 0, "", "")]) := kj_L_law_18 (by decide) rfl
theorem u_L_law_995 {d : Nat} {ls : zL} {h : zH} {a : Nat} : zX d tb_L_law 995 ls [.inr (.inr (some a))] h = if 10 = (zk h a).1 then (zcall (zP zM) d 78 [.inr (.inr (some a))] h).bind (fun q => zX d tb_L_law 998 ls (q.1.toList ++ []) q.2) else none := (ux_callV (t := [(10, 78, 0, "", "")]) (as := []) (r := []) k_L_law_995 (n := 0) rfl rfl rfl (Nat.le_of_ble_eq_true rfl)).trans (zfb_1 _ _)
theorem k_L_law_998 : zlk tb_L_law 998 = some (.aload_n 2, 1, 0, []) := kj_L_law_18 (by decide) rfl
theorem u_L_law_998 {d : Nat} {st : List zV} {h : zH} {l0 l1 l3 : Option zV} {x : (Option Nat)} : zX d tb_L_law 998 [l0, l1, some (.inr (.inr x)), l3] st h = zX d tb_L_law 999 [l0, l1, some (.inr (.inr x)), l3] (.inr (.inr x) :: st) h := (zX_unf (o := (.aload_n 2, 1, 0, [])) k_L_law_998).trans rfl
theorem k_L_law_999 : zlk tb_L_law 999 = some (.invokevirtual 112, 3, 0, [(11, 141, 0, "", "")]) := kj_L_law_18 (by decide) rfl
theorem u_L_law_999 {d : Nat} {ls : zL} {h : zH} {a : Nat} {r0 : zV} : zX d tb_L_law 999 ls [.inr (.inr (some a)), r0] h = if 11 = (zk h a).1 then (zcall (zP zM) d 141 [.inr (.inr (some a))] h).bind (fun q => zX d tb_L_law 1002 ls (q.1.toList ++ [r0]) q.2) else none := (ux_callV (t := [(11, 141, 0, "", "")]) (as := []) (r := [r0]) k_L_law_999 (n := 0) rfl rfl rfl (Nat.le_of_ble_eq_true rfl)).trans (zfb_1 _ _)
theorem k_L_law_1002 : zlk tb_L_law 1002 = some (.if_icmp .eq 28, 3, 0, []) := kj_L_law_18 (by decide) rfl
theorem u_L_law_1002 {d : Nat} {ls : zL} {st : List zV} {h : zH} {x y : Int32} : zX d tb_L_law 1002 ls (.inl y :: .inl x :: st) h = if x = y then zX d tb_L_law 1030 ls st h else zX d tb_L_law 1005 ls st h := ux_ic_eq k_L_law_1002 (by decide)
theorem k_L_law_1005 : zlk tb_L_law 1005 = some (.iconst 0, 1, 0, []) := kj_L_law_18 (by decide) rfl
theorem u_L_law_1005 {d : Nat} {ls : zL} {st : List zV} {h : zH} : zX d tb_L_law 1005 ls st h = zX d tb_L_law 1006 ls (.inl 0 :: st) h := (zX_unf (o := (.iconst 0, 1, 0, [])) k_L_law_1005).trans rfl
theorem k_L_law_1006 : zlk tb_L_law 1006 = some (.ireturn, 1, 1, []) := kj_L_law_18 (by decide) rfl
theorem u_L_law_1006 {d : Nat} {ls : zL} {h : zH} {v : Int32} : zX d tb_L_law 1006 ls [.inl v] h = if v = 0 ∨ v = 1 then some (some (.inl v), h) else none := ux_zret k_L_law_1006
theorem k_L_law_1007 : zlk tb_L_law 1007 = some (.aload_n 1, 1, 0, []) := kj_L_law_18 (by decide) rfl
theorem u_L_law_1007 {d : Nat} {st : List zV} {h : zH} {l0 l2 l3 : Option zV} {x : (Option Nat)} : zX d tb_L_law 1007 [l0, some (.inr (.inr x)), l2, l3] st h = zX d tb_L_law 1008 [l0, some (.inr (.inr x)), l2, l3] (.inr (.inr x) :: st) h := (zX_unf (o := (.aload_n 1, 1, 0, [])) k_L_law_1007).trans rfl
theorem k_L_law_1008 : zlk tb_L_law 1008 = some (.aload_n 0, 1, 0, []) := kj_L_law_18 (by decide) rfl
theorem u_L_law_1008 {d : Nat} {st : List zV} {h : zH} {l1 l2 l3 : Option zV} {x : (Option Nat)} : zX d tb_L_law 1008 [some (.inr (.inr x)), l1, l2, l3] st h = zX d tb_L_law 1009 [some (.inr (.inr x)), l1, l2, l3] (.inr (.inr x) :: st) h := (zX_unf (o := (.aload_n 0, 1, 0, [])) k_L_law_1008).trans rfl
theorem k_L_law_1009 : zlk tb_L_law 1009 = some (.iload_n 3, 1, 0, []) := kj_L_law_18 (by decide) rfl
theorem u_L_law_1009 {d : Nat} {st : List zV} {h : zH} {l0 l1 l2 : Option zV} {x : Int32} : zX d tb_L_law 1009 [l0, l1, l2, some (.inl x)] st h = zX d tb_L_law 1010 [l0, l1, l2, some (.inl x)] (.inl x :: st) h := (zX_unf (o := (.iload_n 3, 1, 0, [])) k_L_law_1009).trans rfl
theorem k_L_law_1010 : zlk tb_L_law 1010 = some (.iconst 1, 1, 0, []) := kj_L_law_18 (by decide) rfl
theorem u_L_law_1010 {d : Nat} {ls : zL} {st : List zV} {h : zH} : zX d tb_L_law 1010 ls st h = zX d tb_L_law 1011 ls (.inl 1 :: st) h := (zX_unf (o := (.iconst 1, 1, 0, [])) k_L_law_1010).trans rfl
theorem k_L_law_1011 : zlk tb_L_law 1011 = some (.iadd, 1, 0, []) := kj_L_law_18 (by decide) rfl
theorem u_L_law_1011 {d : Nat} {ls : zL} {st : List zV} {h : zH} {x y : Int32} : zX d tb_L_law 1011 ls (.inl y :: .inl x :: st) h = zX d tb_L_law 1012 ls (.inl (x + y) :: st) h := (zX_unf (o := (.iadd, 1, 0, [])) k_L_law_1011).trans rfl
theorem k_L_law_1012 : zlk tb_L_law 1012 = some (.iaload, 1, 0, []) := kj_L_law_18 (by decide) rfl
theorem u_L_law_1012 {d : Nat} {ls : zL} {st : List zV} {h : zH} {a : Nat} {i : Int32} : zX d tb_L_law 1012 ls (.inl i :: .inr (.inr (some a)) :: st) h = if (zk h a).1 = 12 ∨ (zk h a).1 = 16 then (zix i (zk h a).2).bind fun j => zX d tb_L_law 1013 ls (.inl (zi h a j) :: st) h else none := ux_ald k_L_law_1012
theorem k_L_law_1013 : zlk tb_L_law 1013 = some (.invokevirtual 113, 3, 1, [(10, 79, 0, "", "")]) := kj_L_law_18 (by decide) rfl
theorem u_L_law_1013 {d : Nat} {ls : zL} {h : zH} {a : Nat} {v0 : Int32} : zX d tb_L_law 1013 ls [.inl v0, .inr (.inr (some a))] h = if 10 = (zk h a).1 then (zcall (zP zM) d 79 [.inr (.inr (some a)), .inl v0] h).bind (fun q => zX d tb_L_law 1016 ls (q.1.toList ++ []) q.2) else none := (ux_callV (t := [(10, 79, 0, "", "")]) (as := [.inl v0]) (r := []) k_L_law_1013 (n := 1) rfl rfl rfl (Nat.le_of_ble_eq_true rfl)).trans (zfb_1 _ _)
theorem k_L_law_1016 : zlk tb_L_law 1016 = some (.aload_n 2, 1, 0, []) := kj_L_law_18 (by decide) rfl
theorem u_L_law_1016 {d : Nat} {st : List zV} {h : zH} {l0 l1 l3 : Option zV} {x : (Option Nat)} : zX d tb_L_law 1016 [l0, l1, some (.inr (.inr x)), l3] st h = zX d tb_L_law 1017 [l0, l1, some (.inr (.inr x)), l3] (.inr (.inr x) :: st) h := (zX_unf (o := (.aload_n 2, 1, 0, [])) k_L_law_1016).trans rfl
theorem k_L_law_1017 : zlk tb_L_law 1017 = some (.aload_n 0, 1, 0, []) := kj_L_law_18 (by decide) rfl
theorem u_L_law_1017 {d : Nat} {st : List zV} {h : zH} {l1 l2 l3 : Option zV} {x : (Option Nat)} : zX d tb_L_law 1017 [some (.inr (.inr x)), l1, l2, l3] st h = zX d tb_L_law 1018 [some (.inr (.inr x)), l1, l2, l3] (.inr (.inr x) :: st) h := (zX_unf (o := (.aload_n 0, 1, 0, [])) k_L_law_1017).trans rfl
theorem k_L_law_1018 : zlk tb_L_law 1018 = some (.iload_n 3, 1, 0, []) := kj_L_law_18 (by decide) rfl
theorem u_L_law_1018 {d : Nat} {st : List zV} {h : zH} {l0 l1 l2 : Option zV} {x : Int32} : zX d tb_L_law 1018 [l0, l1, l2, some (.inl x)] st h = zX d tb_L_law 1019 [l0, l1, l2, some (.inl x)] (.inl x :: st) h := (zX_unf (o := (.iload_n 3, 1, 0, [])) k_L_law_1018).trans rfl
theorem k_L_law_1019 : zlk tb_L_law 1019 = some (.iconst 1, 1, 0, []) := kj_L_law_18 (by decide) rfl
theorem u_L_law_1019 {d : Nat} {ls : zL} {st : List zV} {h : zH} : zX d tb_L_law 1019 ls st h = zX d tb_L_law 1020 ls (.inl 1 :: st) h := (zX_unf (o := (.iconst 1, 1, 0, [])) k_L_law_1019).trans rfl
theorem k_L_law_1020 : zlk tb_L_law 1020 = some (.iadd, 1, 0, []) := kj_L_law_18 (by decide) rfl
theorem u_L_law_1020 {d : Nat} {ls : zL} {st : List zV} {h : zH} {x y : Int32} : zX d tb_L_law 1020 ls (.inl y :: .inl x :: st) h = zX d tb_L_law 1021 ls (.inl (x + y) :: st) h := (zX_unf (o := (.iadd, 1, 0, [])) k_L_law_1020).trans rfl
theorem k_L_law_1021 : zlk tb_L_law 1021 = some (.iaload, 1, 0, []) := kj_L_law_18 (by decide) rfl
theorem u_L_law_1021 {d : Nat} {ls : zL} {st : List zV} {h : zH} {a : Nat} {i : Int32} : zX d tb_L_law 1021 ls (.inl i :: .inr (.inr (some a)) :: st) h = if (zk h a).1 = 12 ∨ (zk h a).1 = 16 then (zix i (zk h a).2).bind fun j => zX d tb_L_law 1022 ls (.inl (zi h a j) :: st) h else none := ux_ald k_L_law_1021
theorem k_L_law_1022 : zlk tb_L_law 1022 = some (.invokevirtual 116, 3, 1, [(11, 142, 0, "", "")]) := kj_L_law_18 (by decide) rfl
theorem u_L_law_1022 {d : Nat} {ls : zL} {h : zH} {a : Nat} {v0 : Int32} {r0 : zV} : zX d tb_L_law 1022 ls [.inl v0, .inr (.inr (some a)), r0] h = if 11 = (zk h a).1 then (zcall (zP zM) d 142 [.inr (.inr (some a)), .inl v0] h).bind (fun q => zX d tb_L_law 1025 ls (q.1.toList ++ [r0]) q.2) else none := (ux_callV (t := [(11, 142, 0, "", "")]) (as := [.inl v0]) (r := [r0]) k_L_law_1022 (n := 1) rfl rfl rfl (Nat.le_of_ble_eq_true rfl)).trans (zfb_1 _ _)
theorem k_L_law_1025 : zlk tb_L_law 1025 = some (.if_icmp .eq 5, 3, 0, []) := kj_L_law_18 (by decide) rfl
theorem u_L_law_1025 {d : Nat} {ls : zL} {st : List zV} {h : zH} {x y : Int32} : zX d tb_L_law 1025 ls (.inl y :: .inl x :: st) h = if x = y then zX d tb_L_law 1030 ls st h else zX d tb_L_law 1028 ls st h := ux_ic_eq k_L_law_1025 (by decide)
theorem k_L_law_1028 : zlk tb_L_law 1028 = some (.iconst 0, 1, 0, []) := kj_L_law_18 (by decide) rfl
theorem u_L_law_1028 {d : Nat} {ls : zL} {st : List zV} {h : zH} : zX d tb_L_law 1028 ls st h = zX d tb_L_law 1029 ls (.inl 0 :: st) h := (zX_unf (o := (.iconst 0, 1, 0, [])) k_L_law_1028).trans rfl
theorem k_L_law_1029 : zlk tb_L_law 1029 = some (.ireturn, 1, 1, []) := kj_L_law_18 (by decide) rfl
theorem u_L_law_1029 {d : Nat} {ls : zL} {h : zH} {v : Int32} : zX d tb_L_law 1029 ls [.inl v] h = if v = 0 ∨ v = 1 then some (some (.inl v), h) else none := ux_zret k_L_law_1029
theorem k_L_law_1030 : zlk tb_L_law 1030 = some (.iinc 3 6, 3, 0, []) := kj_L_law_18 (by decide) rfl
theorem u_L_law_1030 {d : Nat} {st : List zV} {h : zH} {l0 l1 l2 : Option zV} {x : Int32} : zX d tb_L_law 1030 [l0, l1, l2, some (.inl x)] st h = zX d tb_L_law 1033 [l0, l1, zcl l2, some (.inl (x + 6))] st h := (zX_unf (o := (.iinc 3 6, 3, 0, [])) k_L_law_1030).trans rfl
theorem k_L_law_1033 : zlk tb_L_law 1033 = some (.goto (-1015), 3, 0, []) := kj_L_law_18 (by decide) rfl
theorem u_L_law_1033 {d : Nat} {ls : zL} {st : List zV} {h : zH} : zX d tb_L_law 1033 ls st h = zX d tb_L_law 18 ls st h := ux_goto k_L_law_1033 (by decide)
theorem k_L_law_1036 : zlk tb_L_law 1036 = some (.iconst 1, 1, 0, []) := kj_L_law_18 (by decide) rfl
theorem u_L_law_1036 {d : Nat} {ls : zL} {st : List zV} {h : zH} : zX d tb_L_law 1036 ls st h = zX d tb_L_law 1037 ls (.inl 1 :: st) h := (zX_unf (o := (.iconst 1, 1, 0, [])) k_L_law_1036).trans rfl
theorem k_L_law_1037 : zlk tb_L_law 1037 = some (.ireturn, 1, 1, []) := kj_L_law_18 (by decide) rfl
theorem u_L_law_1037 {d : Nat} {ls : zL} {h : zH} {v : Int32} : zX d tb_L_law 1037 ls [.inl v] h = if v = 0 ∨ v = 1 then some (some (.inl v), h) else none := ux_zret k_L_law_1037
