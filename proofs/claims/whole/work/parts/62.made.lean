/-! both objects as they are made -/
theorem zr_wR' {h : zH} {a j : Nat} {v : Option Nat} {x y : Nat} : zr (zwR h a j v) x y = if x = a ∧ y = j then v else zr h x y := rfl
theorem c_i10 {d : Nat} {B : zH} : zcall (zP zM) (d + 4) 52 [.inr (.inr (some 1))] (zNk 1 B 10 0 12) = some (none, B10 B) := by
  have kb1 : ∀ H, zk (b1 H) 1 = zk H 1 := fun _ => rfl
  have kb2 : ∀ H, zk (b2 H) 1 = zk H 1 := fun _ => rfl
  have kb3 : ∀ H, zk (b3 H) 1 = zk H 1 := fun _ => rfl
  have kb4 : ∀ H, zk (b4 H) 1 = zk H 1 := fun _ => rfl
  have k83 : ∀ H, zk (b3 H) 8 = zk H 8 := fun _ => rfl
  have k84 : ∀ H, zk (b4 H) 8 = zk H 8 := fun _ => rfl
  have rb3 : ∀ H, zr (b3 H) 1 4 = zr H 1 4 := fun _ => rfl
  have rb4 : ∀ H, zr (b4 H) 1 4 = zr H 1 4 := fun _ => rfl
  have nb1 : ∀ H, zn (b1 H) = 4 := fun _ => rfl
  have nb2 : ∀ H, zn (b2 H) = 8 := fun _ => rfl
  have nb3 : ∀ H, zn (b3 H) = 22 := fun _ => rfl
  have nb4 : ∀ H, zn (b4 H) = 29 := fun _ => rfl
  have t4 : (4 : Int32).toNatClampNeg = 4 := by decide
  have t20 : (20 : Int32).toNatClampNeg = 20 := by decide
  have x0 : zix 0 4 = some 0 := by decide
  have x1 : zix 1 4 = some 1 := by decide
  have x2 : zix 2 4 = some 2 := by decide
  have x3 : zix 3 4 = some 3 := by decide
  have ks29 : ∀ H, zk (sS 29 30 H) 1 = zk H 1 := fun _ => rfl
  have kt29 : ∀ H, zk (sS 29 30 H) 8 = zk H 8 := fun _ => rfl
  have ku29 : ∀ H, zk (sS 29 30 H) 29 = (7, 0) := fun _ => rfl
  have rs29 : ∀ H, zr (sS 29 30 H) 1 4 = zr H 1 4 := fun _ => rfl
  have ns29 : ∀ H, zn (sS 29 30 H) = 31 := fun _ => rfl
  have ks31 : ∀ H, zk (sS 31 32 H) 1 = zk H 1 := fun _ => rfl
  have kt31 : ∀ H, zk (sS 31 32 H) 8 = zk H 8 := fun _ => rfl
  have ku31 : ∀ H, zk (sS 31 32 H) 31 = (7, 0) := fun _ => rfl
  have rs31 : ∀ H, zr (sS 31 32 H) 1 4 = zr H 1 4 := fun _ => rfl
  have ns31 : ∀ H, zn (sS 31 32 H) = 33 := fun _ => rfl
  have ks33 : ∀ H, zk (sS 33 34 H) 1 = zk H 1 := fun _ => rfl
  have kt33 : ∀ H, zk (sS 33 34 H) 8 = zk H 8 := fun _ => rfl
  have ku33 : ∀ H, zk (sS 33 34 H) 33 = (7, 0) := fun _ => rfl
  have rs33 : ∀ H, zr (sS 33 34 H) 1 4 = zr H 1 4 := fun _ => rfl
  have ns33 : ∀ H, zn (sS 33 34 H) = 35 := fun _ => rfl
  have ks35 : ∀ H, zk (sS 35 36 H) 1 = zk H 1 := fun _ => rfl
  have kt35 : ∀ H, zk (sS 35 36 H) 8 = zk H 8 := fun _ => rfl
  have ku35 : ∀ H, zk (sS 35 36 H) 35 = (7, 0) := fun _ => rfl
  have rs35 : ∀ H, zr (sS 35 36 H) 1 4 = zr H 1 4 := fun _ => rfl
  have ns35 : ∀ H, zn (sS 35 36 H) = 37 := fun _ => rfl
  rw [e_X10_init]
  simp +decide only [u_X10_init_0, u_X10_init_1, u_X10_init_4, u_X10_init_5, u_X10_init_8, u_X10_init_8i, u_X10_init_9, u_X10_init_12, u_X10_init_15, u_X10_init_16, u_X10_init_17, u_X10_init_20, u_X10_init_21, u_X10_init_22, u_X10_init_25, u_X10_init_26, u_X10_init_29, u_X10_init_29i, u_X10_init_30, u_X10_init_33, u_X10_init_36, u_X10_init_37, u_X10_init_38, u_X10_init_41, u_X10_init_44, u_X10_init_45, u_X10_init_48, u_X10_init_48i, u_X10_init_49, u_X10_init_52, u_X10_init_55, u_X10_init_56, u_X10_init_57, u_X10_init_60, u_X10_init_61, u_X10_init_63, u_X10_init_65, u_X10_init_68, u_X10_init_69, u_X10_init_70, u_X10_init_73, u_X10_init_74, u_X10_init_77, u_X10_init_77i, u_X10_init_78, u_X10_init_81, u_X10_init_84, u_X10_init_85, u_X10_init_88, u_X10_init_88i, u_X10_init_89, u_X10_init_92, u_X10_init_95, u_X10_init_96, u_X10_init_99, u_X10_init_99i, u_X10_init_100, u_X10_init_103, u_X10_init_106, u_X10_init_107, u_X10_init_108, u_X10_init_109, u_X10_init_110, u_X10_init_113, u_X10_init_114, u_X10_init_117, u_X10_init_118, u_X10_init_121, u_X10_init_121i, u_X10_init_122, u_X10_init_125, u_X10_init_126, u_X10_init_129, u_X10_init_132, zcl_i, zcl_r, zcl_l, zcl_0, Option.bind_some, Option.bind_none, Option.toList_some, Option.toList_none, List.cons_append, List.nil_append, zk_wI, zk_wR, zk_wC, zr_wI, zr_wC, zi_wR, zn_wI, zn_wR, zn_wC, if_true, if_false, true_or, or_true, or_false, false_or, true_and, and_true, ↓reduceIte, reduceCtorEq, Nat.reduceEqDiff, Nat.reduceLT, Nat.reduceLeDiff, Nat.reduceAdd, Nat.reduceSub, Nat.reduceMul, Int32.reduceLT, Int32.reduceLE, Int32.reduceAdd, Int32.reduceMul, Int32.reduceSub, Int32.reduceToNatClampNeg, and_self, or_self, and_false, false_and, not_true_eq_false, not_false_eq_true, zk_Nk, zr_Nk, zr_wR', zN_k, zn_Nk, kb1, kb2, kb3, kb4, k83, k84, rb3, rb4, nb1, nb2, nb3, nb4, t4, t20, x0, x1, x2, x3, c_i1, c_i6, c_i9, c_i4, c_i3, c_i2, c_i7_29, c_i7_31, c_i7_33, c_i7_35, ks29, kt29, ku29, rs29, ns29, ks31, kt31, ku31, rs31, ns31, ks33, kt33, ku33, rs33, ns33, ks35, kt35, ku35, rs35, ns35]
  rfl
theorem c_i11 {d : Nat} {H : zH} : zcall (zP zM) (d + 1) 86 [.inr (.inr (some 37))] (zNk 37 H 11 0 43) = some (none, B11 H) := by
  have t4 : (4 : Int32).toNatClampNeg = 4 := by decide
  have t5 : (5 : Int32).toNatClampNeg = 5 := by decide
  have t6 : (6 : Int32).toNatClampNeg = 6 := by decide
  have t8 : (8 : Int32).toNatClampNeg = 8 := by decide
  have t60 : (60 : Int32).toNatClampNeg = 60 := by decide
  have t240 : (240 : Int32).toNatClampNeg = 240 := by decide
  have x0 : zix 0 4 = some 0 := by decide
  have x1 : zix 1 4 = some 1 := by decide
  have x2 : zix 2 4 = some 2 := by decide
  have x3 : zix 3 4 = some 3 := by decide
  rw [e_X11_init]
  simp +decide only [u_X11_init_0, u_X11_init_1, u_X11_init_4, u_X11_init_5, u_X11_init_7, u_X11_init_9, u_X11_init_12, u_X11_init_13, u_X11_init_15, u_X11_init_17, u_X11_init_20, u_X11_init_21, u_X11_init_23, u_X11_init_25, u_X11_init_28, u_X11_init_29, u_X11_init_31, u_X11_init_33, u_X11_init_36, u_X11_init_37, u_X11_init_39, u_X11_init_41, u_X11_init_44, u_X11_init_45, u_X11_init_47, u_X11_init_49, u_X11_init_52, u_X11_init_53, u_X11_init_55, u_X11_init_57, u_X11_init_60, u_X11_init_61, u_X11_init_63, u_X11_init_65, u_X11_init_68, u_X11_init_69, u_X11_init_71, u_X11_init_73, u_X11_init_76, u_X11_init_77, u_X11_init_79, u_X11_init_81, u_X11_init_84, u_X11_init_85, u_X11_init_86, u_X11_init_88, u_X11_init_91, u_X11_init_92, u_X11_init_93, u_X11_init_95, u_X11_init_98, u_X11_init_99, u_X11_init_101, u_X11_init_103, u_X11_init_106, u_X11_init_107, u_X11_init_109, u_X11_init_111, u_X11_init_114, u_X11_init_115, u_X11_init_117, u_X11_init_119, u_X11_init_122, u_X11_init_123, u_X11_init_125, u_X11_init_127, u_X11_init_130, u_X11_init_131, u_X11_init_133, u_X11_init_135, u_X11_init_138, u_X11_init_139, u_X11_init_141, u_X11_init_143, u_X11_init_146, u_X11_init_147, u_X11_init_149, u_X11_init_151, u_X11_init_154, u_X11_init_155, u_X11_init_157, u_X11_init_159, u_X11_init_162, u_X11_init_163, u_X11_init_165, u_X11_init_167, u_X11_init_170, u_X11_init_171, u_X11_init_173, u_X11_init_175, u_X11_init_178, u_X11_init_179, u_X11_init_180, u_X11_init_182, u_X11_init_185, u_X11_init_186, u_X11_init_187, u_X11_init_189, u_X11_init_192, u_X11_init_193, u_X11_init_196, u_X11_init_198, u_X11_init_201, u_X11_init_202, u_X11_init_204, u_X11_init_206, u_X11_init_209, u_X11_init_210, u_X11_init_211, u_X11_init_212, u_X11_init_213, u_X11_init_216, u_X11_init_217, u_X11_init_220, u_X11_init_221, u_X11_init_222, u_X11_init_223, u_X11_init_226, u_X11_init_229, zcl_i, zcl_r, zcl_l, zcl_0, Option.bind_some, Option.bind_none, Option.toList_some, Option.toList_none, List.cons_append, List.nil_append, zk_wI, zk_wR, zk_wC, zr_wI, zr_wC, zi_wR, zn_wI, zn_wR, zn_wC, if_true, if_false, true_or, or_true, or_false, false_or, true_and, and_true, ↓reduceIte, reduceCtorEq, Nat.reduceEqDiff, Nat.reduceLT, Nat.reduceLeDiff, Nat.reduceAdd, Nat.reduceSub, Nat.reduceMul, Int32.reduceLT, Int32.reduceLE, Int32.reduceAdd, Int32.reduceMul, Int32.reduceSub, Int32.reduceToNatClampNeg, and_self, or_self, and_false, false_and, not_true_eq_false, not_false_eq_true, zk_Nk, zr_Nk, zr_wR', zN_k, zn_Nk, t4, t5, t6, t8, t60, t240, x0, x1, x2, x3]
  rfl
set_option maxRecDepth 20000 in
theorem St_BB {B : zH} : St (B11 (B10 B)) := by
  constructor
  · intro a h1 h2
    rcases (show a = 1 ∨ a = 2 ∨ a = 3 ∨ a = 4 ∨ a = 5 ∨ a = 6 ∨ a = 7 ∨ a = 8 ∨ a = 9 ∨ a = 10 ∨ a = 11 ∨ a = 12 ∨ a = 13 ∨ a = 14 ∨ a = 15 ∨ a = 16 ∨ a = 17 ∨ a = 18 ∨ a = 19 ∨ a = 20 ∨ a = 21 ∨ a = 22 ∨ a = 23 ∨ a = 24 ∨ a = 25 ∨ a = 26 ∨ a = 27 ∨ a = 28 ∨ a = 29 ∨ a = 30 ∨ a = 31 ∨ a = 32 ∨ a = 33 ∨ a = 34 ∨ a = 35 ∨ a = 36 ∨ a = 37 ∨ a = 38 ∨ a = 39 ∨ a = 40 ∨ a = 41 ∨ a = 42 ∨ a = 43 ∨ a = 44 ∨ a = 45 ∨ a = 46 ∨ a = 47 ∨ a = 48 ∨ a = 49 ∨ a = 50 ∨ a = 51 ∨ a = 52 ∨ a = 53 ∨ a = 54 ∨ a = 55 ∨ a = 56 ∨ a = 57 ∨ a = 58 ∨ a = 59 ∨ a = 60 ∨ a = 61 ∨ a = 62 ∨ a = 63 by omega) with rfl | rfl | rfl | rfl | rfl | rfl | rfl | rfl | rfl | rfl | rfl | rfl | rfl | rfl | rfl | rfl | rfl | rfl | rfl | rfl | rfl | rfl | rfl | rfl | rfl | rfl | rfl | rfl | rfl | rfl | rfl | rfl | rfl | rfl | rfl | rfl | rfl | rfl | rfl | rfl | rfl | rfl | rfl | rfl | rfl | rfl | rfl | rfl | rfl | rfl | rfl | rfl | rfl | rfl | rfl | rfl | rfl | rfl | rfl | rfl | rfl | rfl | rfl <;> rfl
  · intro a j r hr
    unfold mr0 at hr
    split at hr <;> first | (cases hr; done) | (cases hr; rfl)
theorem Inv_BB {B : zH} : Inv (B11 (B10 B)) := by
  refine ⟨St_BB, Nat.le_refl 64, 0, ⟨Nat.zero_le 8, rfl, rfl, rfl, ⟨0, by decide, fun z => absurd z (by decide), rfl⟩, fun t ht => absurd ht (by omega)⟩, ⟨0, 0, by decide, by decide, rfl, rfl, rfl, rfl⟩, ⟨rfl, rfl⟩, ⟨0, by decide, rfl, rfl, fun i hi => absurd hi (by omega)⟩, fun k hk => Or.inl ?_⟩
  rcases (show k = 0 ∨ k = 1 ∨ k = 2 ∨ k = 3 by omega) with rfl | rfl | rfl | rfl
  · exact ⟨rfl, rfl, rfl⟩
  · exact ⟨rfl, rfl, rfl⟩
  · exact ⟨rfl, rfl, rfl⟩
  · exact ⟨rfl, rfl, rfl⟩
theorem zn_BB {B : zH} : zn (B11 (B10 B)) = 64 := rfl
