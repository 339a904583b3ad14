/-! forest: the class makes its tales -/
def tN (H : zH) (k : Nat) (num na nb te lo : Int32) : zH := zwI (zwI (zwI (zwI (zwI (zN H (kcls k) 0 5) (zn H) 0 num) (zn H) 1 na) (zn H) 2 nb) (zn H) 3 te) (zn H) 4 lo
theorem zk_tN {H : zH} {k : Nat} {num na nb te lo : Int32} {x : Nat} : zk (tN H k num na nb te lo) x = if x = zn H then (kcls k, 0) else zk H x := rfl
theorem zr_tN {H : zH} {k : Nat} {num na nb te lo : Int32} {x y : Nat} : zr (tN H k num na nb te lo) x y = if x = zn H then none else zr H x y := rfl
theorem zn_tN {H : zH} {k : Nat} {num na nb te lo : Int32} : zn (tN H k num na nb te lo) = zn H + 1 := rfl
theorem zu_tN {H : zH} {k : Nat} {num na nb te lo : Int32} : zu (tN H k num na nb te lo) = zu H + 5 := rfl
theorem zi_zN {H : zH} {a b c x y : Nat} : zi (zN H a b c) x y = if x = zn H then 0 else zi H x y := rfl
theorem zk_zN {H : zH} {a b c x : Nat} : zk (zN H a b c) x = if x = zn H then (a, b) else zk H x := rfl
theorem zi_tN {H : zH} {k : Nat} {num na nb te lo : Int32} {x y : Nat} (hx : ¬ x = zn H) : zi (tN H k num na nb te lo) x y = zi H x y := by
  simp [tN, zi_wI, zi_zN, hx]
theorem isT_tN {H : zH} {k : Nat} (hk : k ≤ 2) {num na nb te lo : Int32} : isT (tN H k num na nb te lo) (zn H) k num na nb te lo := by
  refine ⟨by rw [zk_tN, if_pos rfl], hk, ?_, ?_, ?_, ?_, ?_⟩ <;> simp [tN, zi_wI]
theorem kdN_le {c : Int32} : kdN c ≤ 2 := by
  unfold kdN
  split
  · omega
  · split <;> omega
theorem c_init8 {d : Nat} {H : zH} {q : Nat} (hk : (zk H q).1 = 8 ∨ (zk H q).1 = 0 ∨ (zk H q).1 = 5) {v0 v1 v2 v3 v4 : Int32} : zcall (zP zM) (d + 1) 42 [.inr (.inr (some q)), .inl v0, .inl v1, .inl v2, .inl v3, .inl v4] H = some (none, zwI (zwI (zwI (zwI (zwI H q 0 v0) q 1 v1) q 2 v2) q 3 v3) q 4 v4) := by
  rw [e_X8_init]
  rcases hk with hk | hk | hk <;> simp +decide only [u_X8_init_0, u_X8_init_1, u_X8_init_4, u_X8_init_5, u_X8_init_6, u_X8_init_9, u_X8_init_10, u_X8_init_11, u_X8_init_14, u_X8_init_15, u_X8_init_16, u_X8_init_19, u_X8_init_20, u_X8_init_22, u_X8_init_25, u_X8_init_26, u_X8_init_28, u_X8_init_31, zcl_i, zcl_r, zcl_l, zcl_0, Option.bind_some, Option.bind_none, Option.toList_some, Option.toList_none, List.cons_append, List.nil_append, zk_wI, zk_wR, zk_wC, zr_wI, zr_wC, zi_wR, zn_wI, zn_wR, zn_wC, if_true, if_false, true_or, or_true, or_false, false_or, true_and, and_true, ↓reduceIte, reduceCtorEq, Nat.reduceEqDiff, Nat.reduceLT, Nat.reduceLeDiff, Nat.reduceAdd, Nat.reduceSub, Nat.reduceMul, Int32.reduceLT, Int32.reduceLE, Int32.reduceAdd, Int32.reduceMul, Int32.reduceSub, Int32.reduceToNatClampNeg, and_self, or_self, and_false, false_and, not_true_eq_false, not_false_eq_true, hk]
theorem c_init0 {d : Nat} {H : zH} {q : Nat} (hk : (zk H q).1 = 0 ∨ (zk H q).1 = 5) {v0 v1 v2 v3 v4 : Int32} : zcall (zP zM) (d + 2) 0 [.inr (.inr (some q)), .inl v0, .inl v1, .inl v2, .inl v3, .inl v4] H = some (none, zwI (zwI (zwI (zwI (zwI H q 0 v0) q 1 v1) q 2 v2) q 3 v3) q 4 v4) := by
  rw [e_X0_init]
  rcases hk with hk | hk <;> simp +decide only [u_X0_init_0, u_X0_init_1, u_X0_init_2, u_X0_init_3, u_X0_init_4, u_X0_init_6, u_X0_init_8, u_X0_init_11, zcl_i, zcl_r, zcl_l, zcl_0, Option.bind_some, Option.bind_none, Option.toList_some, Option.toList_none, List.cons_append, List.nil_append, zk_wI, zk_wR, zk_wC, zr_wI, zr_wC, zi_wR, zn_wI, zn_wR, zn_wC, if_true, if_false, true_or, or_true, or_false, false_or, true_and, and_true, ↓reduceIte, reduceCtorEq, Nat.reduceEqDiff, Nat.reduceLT, Nat.reduceLeDiff, Nat.reduceAdd, Nat.reduceSub, Nat.reduceMul, Int32.reduceLT, Int32.reduceLE, Int32.reduceAdd, Int32.reduceMul, Int32.reduceSub, Int32.reduceToNatClampNeg, and_self, or_self, and_false, false_and, not_true_eq_false, not_false_eq_true, hk, c_init8]
theorem c_init5 {d : Nat} {H : zH} {q : Nat} (hk : (zk H q).1 = 5) {v0 v1 v2 v3 v4 : Int32} : zcall (zP zM) (d + 3) 25 [.inr (.inr (some q)), .inl v0, .inl v1, .inl v2, .inl v3, .inl v4] H = some (none, zwI (zwI (zwI (zwI (zwI H q 0 v0) q 1 v1) q 2 v2) q 3 v3) q 4 v4) := by
  rw [e_X5_init]
  simp +decide only [u_X5_init_0, u_X5_init_1, u_X5_init_2, u_X5_init_3, u_X5_init_4, u_X5_init_6, u_X5_init_8, u_X5_init_11, zcl_i, zcl_r, zcl_l, zcl_0, Option.bind_some, Option.bind_none, Option.toList_some, Option.toList_none, List.cons_append, List.nil_append, zk_wI, zk_wR, zk_wC, zr_wI, zr_wC, zi_wR, zn_wI, zn_wR, zn_wC, if_true, if_false, true_or, or_true, or_false, false_or, true_and, and_true, ↓reduceIte, reduceCtorEq, Nat.reduceEqDiff, Nat.reduceLT, Nat.reduceLeDiff, Nat.reduceAdd, Nat.reduceSub, Nat.reduceMul, Int32.reduceLT, Int32.reduceLE, Int32.reduceAdd, Int32.reduceMul, Int32.reduceSub, Int32.reduceToNatClampNeg, and_self, or_self, and_false, false_and, not_true_eq_false, not_false_eq_true, hk, c_init0]
theorem c_newTale {d : Nat} {H : zH} {a0 c0 : Nat} (A : isSh H a0 c0) {c : Nat} (hc60 : c ≤ 60) (hcc : zi H a0 1 = nI c) {b : Nat} (hb : b + 5 < c) {t : Int32} (o1 : zi H c0 (b + 1) = 116 ∨ zi H c0 (b + 1) = 100 ∨ zi H c0 (b + 1) = 111) : zcall (zP zM) (d + 4) 10 [.inl t, .inr (.inr (some a0)), .inl (nI b)] H = some (some (.inr (.inr (some (zn H)))), tN H (kdN (zi H c0 (b + 1))) t (zi H c0 (b + 2) - 48) (zi H c0 (b + 3) - 48) (zi H c0 (b + 4) - 48) (zi H c0 (b + 5) - 48)) := by
  have r : ∀ d i, i ≤ 5 → zcall (zP zM) (d + 2) 40 [.inr (.inr (some a0)), .inl (nI (b + i))] H = some (some (.inl (zi H c0 (b + i))), H) := fun d i hi => c_read A hc60 hcc (show b + i < c by omega)
  have n1 : nI b + 1 = nI (b + 1) := nI_1 b
  have n2 : nI b + 2 = nI (b + 2) := nI_add b 2
  have n3 : nI b + 3 = nI (b + 3) := nI_add b 3
  have n4 : nI b + 4 = nI (b + 4) := nI_add b 4
  have n5 : nI b + 5 = nI (b + 5) := nI_add b 5
  have z8 : zk (zN H 8 0 5) (zn H) = (8, 0) := by rw [zk_zN, if_pos rfl]
  have z0 : zk (zN H 0 0 5) (zn H) = (0, 0) := by rw [zk_zN, if_pos rfl]
  have z5 : zk (zN H 5 0 5) (zn H) = (5, 0) := by rw [zk_zN, if_pos rfl]
  rw [e_X1_newTale]
  rcases o1 with q | q | q
  · simp +decide only [u_X1_newTale_0, u_X1_newTale_1, u_X1_newTale_2, u_X1_newTale_3, u_X1_newTale_4, u_X1_newTale_7, u_X1_newTale_8, u_X1_newTale_9, u_X1_newTale_10, u_X1_newTale_11, u_X1_newTale_12, u_X1_newTale_15, u_X1_newTale_17, u_X1_newTale_18, u_X1_newTale_20, u_X1_newTale_21, u_X1_newTale_22, u_X1_newTale_23, u_X1_newTale_24, u_X1_newTale_27, u_X1_newTale_29, u_X1_newTale_30, u_X1_newTale_32, u_X1_newTale_33, u_X1_newTale_34, u_X1_newTale_35, u_X1_newTale_36, u_X1_newTale_39, u_X1_newTale_41, u_X1_newTale_42, u_X1_newTale_44, u_X1_newTale_45, u_X1_newTale_46, u_X1_newTale_47, u_X1_newTale_48, u_X1_newTale_51, u_X1_newTale_53, u_X1_newTale_54, u_X1_newTale_56, u_X1_newTale_57, u_X1_newTale_59, u_X1_newTale_62, u_X1_newTale_65, u_X1_newTale_65i, u_X1_newTale_66, u_X1_newTale_67, u_X1_newTale_69, u_X1_newTale_71, u_X1_newTale_73, u_X1_newTale_75, u_X1_newTale_78, u_X1_newTale_79, u_X1_newTale_80, u_X1_newTale_82, u_X1_newTale_85, u_X1_newTale_88, u_X1_newTale_88i, u_X1_newTale_89, u_X1_newTale_90, u_X1_newTale_92, u_X1_newTale_94, u_X1_newTale_96, u_X1_newTale_98, u_X1_newTale_101, u_X1_newTale_102, u_X1_newTale_105, u_X1_newTale_105i, u_X1_newTale_106, u_X1_newTale_107, u_X1_newTale_109, u_X1_newTale_111, u_X1_newTale_113, u_X1_newTale_115, u_X1_newTale_118, zcl_i, zcl_r, zcl_l, zcl_0, Option.bind_some, Option.bind_none, Option.toList_some, Option.toList_none, List.cons_append, List.nil_append, zk_wI, zk_wR, zk_wC, zr_wI, zr_wC, zi_wR, zn_wI, zn_wR, zn_wC, if_true, if_false, true_or, or_true, or_false, false_or, true_and, and_true, ↓reduceIte, reduceCtorEq, Nat.reduceEqDiff, Nat.reduceLT, Nat.reduceLeDiff, Nat.reduceAdd, Nat.reduceSub, Nat.reduceMul, Int32.reduceLT, Int32.reduceLE, Int32.reduceAdd, Int32.reduceMul, Int32.reduceSub, Int32.reduceToNatClampNeg, and_self, or_self, and_false, false_and, not_true_eq_false, not_false_eq_true, A.1, n1, n2, n3, n4, n5, r _ 1 (by omega), r _ 2 (by omega), r _ 3 (by omega), r _ 4 (by omega), r _ 5 (by omega), q, z8, c_init8 (H := zN H 8 0 5) (q := zn H) (Or.inl (by rw [z8])), kdN]
    rfl
  · simp +decide only [u_X1_newTale_0, u_X1_newTale_1, u_X1_newTale_2, u_X1_newTale_3, u_X1_newTale_4, u_X1_newTale_7, u_X1_newTale_8, u_X1_newTale_9, u_X1_newTale_10, u_X1_newTale_11, u_X1_newTale_12, u_X1_newTale_15, u_X1_newTale_17, u_X1_newTale_18, u_X1_newTale_20, u_X1_newTale_21, u_X1_newTale_22, u_X1_newTale_23, u_X1_newTale_24, u_X1_newTale_27, u_X1_newTale_29, u_X1_newTale_30, u_X1_newTale_32, u_X1_newTale_33, u_X1_newTale_34, u_X1_newTale_35, u_X1_newTale_36, u_X1_newTale_39, u_X1_newTale_41, u_X1_newTale_42, u_X1_newTale_44, u_X1_newTale_45, u_X1_newTale_46, u_X1_newTale_47, u_X1_newTale_48, u_X1_newTale_51, u_X1_newTale_53, u_X1_newTale_54, u_X1_newTale_56, u_X1_newTale_57, u_X1_newTale_59, u_X1_newTale_62, u_X1_newTale_65, u_X1_newTale_65i, u_X1_newTale_66, u_X1_newTale_67, u_X1_newTale_69, u_X1_newTale_71, u_X1_newTale_73, u_X1_newTale_75, u_X1_newTale_78, u_X1_newTale_79, u_X1_newTale_80, u_X1_newTale_82, u_X1_newTale_85, u_X1_newTale_88, u_X1_newTale_88i, u_X1_newTale_89, u_X1_newTale_90, u_X1_newTale_92, u_X1_newTale_94, u_X1_newTale_96, u_X1_newTale_98, u_X1_newTale_101, u_X1_newTale_102, u_X1_newTale_105, u_X1_newTale_105i, u_X1_newTale_106, u_X1_newTale_107, u_X1_newTale_109, u_X1_newTale_111, u_X1_newTale_113, u_X1_newTale_115, u_X1_newTale_118, zcl_i, zcl_r, zcl_l, zcl_0, Option.bind_some, Option.bind_none, Option.toList_some, Option.toList_none, List.cons_append, List.nil_append, zk_wI, zk_wR, zk_wC, zr_wI, zr_wC, zi_wR, zn_wI, zn_wR, zn_wC, if_true, if_false, true_or, or_true, or_false, false_or, true_and, and_true, ↓reduceIte, reduceCtorEq, Nat.reduceEqDiff, Nat.reduceLT, Nat.reduceLeDiff, Nat.reduceAdd, Nat.reduceSub, Nat.reduceMul, Int32.reduceLT, Int32.reduceLE, Int32.reduceAdd, Int32.reduceMul, Int32.reduceSub, Int32.reduceToNatClampNeg, and_self, or_self, and_false, false_and, not_true_eq_false, not_false_eq_true, A.1, n1, n2, n3, n4, n5, r _ 1 (by omega), r _ 2 (by omega), r _ 3 (by omega), r _ 4 (by omega), r _ 5 (by omega), q, z0, c_init0 (H := zN H 0 0 5) (q := zn H) (Or.inl (by rw [z0])), kdN]
    rfl
  · simp +decide only [u_X1_newTale_0, u_X1_newTale_1, u_X1_newTale_2, u_X1_newTale_3, u_X1_newTale_4, u_X1_newTale_7, u_X1_newTale_8, u_X1_newTale_9, u_X1_newTale_10, u_X1_newTale_11, u_X1_newTale_12, u_X1_newTale_15, u_X1_newTale_17, u_X1_newTale_18, u_X1_newTale_20, u_X1_newTale_21, u_X1_newTale_22, u_X1_newTale_23, u_X1_newTale_24, u_X1_newTale_27, u_X1_newTale_29, u_X1_newTale_30, u_X1_newTale_32, u_X1_newTale_33, u_X1_newTale_34, u_X1_newTale_35, u_X1_newTale_36, u_X1_newTale_39, u_X1_newTale_41, u_X1_newTale_42, u_X1_newTale_44, u_X1_newTale_45, u_X1_newTale_46, u_X1_newTale_47, u_X1_newTale_48, u_X1_newTale_51, u_X1_newTale_53, u_X1_newTale_54, u_X1_newTale_56, u_X1_newTale_57, u_X1_newTale_59, u_X1_newTale_62, u_X1_newTale_65, u_X1_newTale_65i, u_X1_newTale_66, u_X1_newTale_67, u_X1_newTale_69, u_X1_newTale_71, u_X1_newTale_73, u_X1_newTale_75, u_X1_newTale_78, u_X1_newTale_79, u_X1_newTale_80, u_X1_newTale_82, u_X1_newTale_85, u_X1_newTale_88, u_X1_newTale_88i, u_X1_newTale_89, u_X1_newTale_90, u_X1_newTale_92, u_X1_newTale_94, u_X1_newTale_96, u_X1_newTale_98, u_X1_newTale_101, u_X1_newTale_102, u_X1_newTale_105, u_X1_newTale_105i, u_X1_newTale_106, u_X1_newTale_107, u_X1_newTale_109, u_X1_newTale_111, u_X1_newTale_113, u_X1_newTale_115, u_X1_newTale_118, zcl_i, zcl_r, zcl_l, zcl_0, Option.bind_some, Option.bind_none, Option.toList_some, Option.toList_none, List.cons_append, List.nil_append, zk_wI, zk_wR, zk_wC, zr_wI, zr_wC, zi_wR, zn_wI, zn_wR, zn_wC, if_true, if_false, true_or, or_true, or_false, false_or, true_and, and_true, ↓reduceIte, reduceCtorEq, Nat.reduceEqDiff, Nat.reduceLT, Nat.reduceLeDiff, Nat.reduceAdd, Nat.reduceSub, Nat.reduceMul, Int32.reduceLT, Int32.reduceLE, Int32.reduceAdd, Int32.reduceMul, Int32.reduceSub, Int32.reduceToNatClampNeg, and_self, or_self, and_false, false_and, not_true_eq_false, not_false_eq_true, A.1, n1, n2, n3, n4, n5, r _ 1 (by omega), r _ 2 (by omega), r _ 3 (by omega), r _ 4 (by omega), r _ 5 (by omega), q, z5, c_init5 (H := zN H 5 0 5) (q := zn H) (by rw [z5]), kdN]
    rfl
/-- t tales have been made since h -/
def GP (h H : zH) (c0 a t : Nat) : Prop := zn H = zn h + t ∧ zu H = zu h + 5 * t ∧ (∀ x, x < zn h → zk H x = zk h x) ∧ (∀ x y, x < zn h → zi H x y = zi h x y) ∧ (∀ x y, x < zn h → ¬ x = 3 → zr H x y = zr h x y) ∧ ∀ u, u < t → zr H 3 u = some (zn h + u) ∧ isT H (zn h + u) (kdN (zi h c0 (a + 2 + 6 * u + 1))) (nI u) (zi h c0 (a + 2 + 6 * u + 2) - 48) (zi h c0 (a + 2 + 6 * u + 3) - 48) (zi h c0 (a + 2 + 6 * u + 4) - 48) (zi h c0 (a + 2 + 6 * u + 5) - 48)
theorem GP_St {h H : zH} {c0 a t : Nat} (S : St h) (hn : 64 ≤ zn h) (g : GP h H c0 a t) : St H := by
  refine ⟨fun x h1 h2 => (g.2.2.1 x (by omega)).trans (S.1 x h1 h2), fun x j r hr => ?_⟩
  have hx : x < 64 ∧ ¬ x = 3 := by
    unfold mr0 at hr
    split at hr <;> first | (cases hr; done) | exact ⟨by decide, by decide⟩
  exact (g.2.2.2.2.1 x j (by omega) hx.2).trans (S.2 x j r hr)
theorem kcls_fit {k : Nat} : zfit 13 (kcls k) = true := by
  unfold kcls
  split <;> rfl
theorem zu_zwR {H : zH} {a j : Nat} {v : Option Nat} : zu (zwR H a j v) = zu H := rfl
theorem GP_step {h H : zH} {c0 a t : Nat} (hn : 64 ≤ zn h) (g : GP h H c0 a t) : GP h (zwR (tN H (kdN (zi h c0 (a + 2 + 6 * t + 1))) (nI t) (zi h c0 (a + 2 + 6 * t + 2) - 48) (zi h c0 (a + 2 + 6 * t + 3) - 48) (zi h c0 (a + 2 + 6 * t + 4) - 48) (zi h c0 (a + 2 + 6 * t + 5) - 48)) 3 t (some (zn H))) c0 a (t + 1) := by
  obtain ⟨g1, g2, g3, g4, g5, g6⟩ := g
  refine ⟨?_, ?_, fun x hx => ?_, fun x y hx => ?_, fun x y hx h3 => ?_, fun u hu => ?_⟩
  · rw [zn_wR, zn_tN, g1]; omega
  · rw [zu_zwR, zu_tN, g2]; omega
  · rw [zk_wR, zk_tN, if_neg (by omega)]; exact g3 x hx
  · rw [zi_wR, zi_tN (by omega)]; exact g4 x y hx
  · rw [zr_wR, if_neg (fun z => h3 z.1), zr_tN, if_neg (by omega)]; exact g5 x y hx h3
  · by_cases e : u = t
    · subst e
      refine ⟨?_, ?_⟩
      · rw [zr_wR, if_pos ⟨rfl, rfl⟩, g1]
      · have := isT_tN (H := H) (kdN_le (c := zi h c0 (a + 2 + 6 * u + 1))) (num := nI u) (na := zi h c0 (a + 2 + 6 * u + 2) - 48) (nb := zi h c0 (a + 2 + 6 * u + 3) - 48) (te := zi h c0 (a + 2 + 6 * u + 4) - 48) (lo := zi h c0 (a + 2 + 6 * u + 5) - 48)
        rw [← g1]
        exact ⟨this.1, this.2⟩
    · obtain ⟨u1, u2, u3, u4, u5, u6, u7, u8⟩ := g6 u (by omega)
      refine ⟨?_, ?_, u3, ?_, ?_, ?_, ?_, ?_⟩
      · rw [zr_wR, if_neg (fun z => e z.2), zr_tN, if_neg (by omega)]; exact u1
      · rw [zk_wR, zk_tN, if_neg (by omega)]; exact u2
      · rw [zi_wR, zi_tN (by omega)]; exact u4
      · rw [zi_wR, zi_tN (by omega)]; exact u5
      · rw [zi_wR, zi_tN (by omega)]; exact u6
      · rw [zi_wR, zi_tN (by omega)]; exact u7
      · rw [zi_wR, zi_tN (by omega)]; exact u8
theorem c_grow {d : Nat} {h : zH} (S : St h) (hn : 64 ≤ zn h) {j : Nat} (hj : j < 4) {c : Nat} (hc60 : c ≤ 60) (hcc : zi h (29 + 2 * j) 1 = nI c) {a m K : Nat} (ham : a + m ≤ c) (hm : m = 2 + 6 * K) (hK8 : K ≤ 8) (hK : 1 ≤ K) (o1 : ∀ t, t < K → zi h (30 + 2 * j) (a + 2 + 6 * t + 1) = 116 ∨ zi h (30 + 2 * j) (a + 2 + 6 * t + 1) = 100 ∨ zi h (30 + 2 * j) (a + 2 + 6 * t + 1) = 111) : ∃ H, zcall (zP zM) (d + 5) 9 [.inr (.inr (some 2)), .inr (.inr (some (29 + 2 * j))), .inl (nI a), .inl (nI m)] h = some (none, H) ∧ GP (zwI (zwI h 2 0 (zi h (30 + 2 * j) (a + 1) - 48)) 2 1 (nI K)) H (30 + 2 * j) a K := by
  have A := isSh_at S hj
  have e8 : ¬ (8 : Int32) < nI K := by
    rw [show (8 : Int32) = nI 8 from rfl, nI_ltI' (by decide) (by omega)]
    omega
  have ed : (nI m - 2) / 6 = nI K := by
    rw [goDiv m (by omega) (by omega), hm]
    congr 1
    omega
  generalize hh' : zwI (zwI h 2 0 (zi h (30 + 2 * j) (a + 1) - 48)) 2 1 (nI K) = h'
  have S' : St h' := by rw [← hh']; exact S
  have hn' : 64 ≤ zn h' := by rw [← hh']; exact hn
  have q' : ∀ x y, ¬ x = 2 → zi h' x y = zi h x y := fun x y hx => by rw [← hh', zi_wI, if_neg (fun z => hx z.1), zi_wI, if_neg (fun z => hx z.1)]
  have k' : zi h' 2 1 = nI K := by rw [← hh', zi_wI, if_pos ⟨rfl, rfl⟩]
  have key : ∀ (mm t : Nat) (H : zH), t + mm = K → GP h' H (30 + 2 * j) a t → ∃ H', zX (d + 4) tb_X1_grow 32 [some (.inr (.inr (some 2))), some (.inr (.inr (some (29 + 2 * j)))), some (.inl (nI a)), some (.inl (nI m)), some (.inl (nI t))] [] H = some (none, H') ∧ GP h' H' (30 + 2 * j) a K := by
    intro mm
    induction mm with
    | zero =>
      intro t H ht g
      have e : t = K := by omega
      subst e
      have SH := GP_St S' hn' g
      have kk : zi H 2 1 = nI t := (g.2.2.2.1 2 1 (by omega)).trans k'
      exact ⟨H, by simp +decide only [u_X1_grow_0, u_X1_grow_1, u_X1_grow_2, u_X1_grow_3, u_X1_grow_4, u_X1_grow_5, u_X1_grow_8, u_X1_grow_10, u_X1_grow_11, u_X1_grow_14, u_X1_grow_15, u_X1_grow_16, u_X1_grow_17, u_X1_grow_18, u_X1_grow_20, u_X1_grow_21, u_X1_grow_23, u_X1_grow_26, u_X1_grow_29, u_X1_grow_30, u_X1_grow_32, u_X1_grow_34, u_X1_grow_35, u_X1_grow_38, u_X1_grow_41, u_X1_grow_42, u_X1_grow_45, u_X1_grow_47, u_X1_grow_49, u_X1_grow_50, u_X1_grow_51, u_X1_grow_52, u_X1_grow_53, u_X1_grow_55, u_X1_grow_57, u_X1_grow_58, u_X1_grow_59, u_X1_grow_62, u_X1_grow_63, u_X1_grow_66, u_X1_grow_69, zcl_i, zcl_r, zcl_l, zcl_0, Option.bind_some, Option.bind_none, Option.toList_some, Option.toList_none, List.cons_append, List.nil_append, zk_wI, zk_wR, zk_wC, zr_wI, zr_wC, zi_wR, zn_wI, zn_wR, zn_wC, if_true, if_false, true_or, or_true, or_false, false_or, true_and, and_true, ↓reduceIte, reduceCtorEq, Nat.reduceEqDiff, Nat.reduceLT, Nat.reduceLeDiff, Nat.reduceAdd, Nat.reduceSub, Nat.reduceMul, Int32.reduceLT, Int32.reduceLE, Int32.reduceAdd, Int32.reduceMul, Int32.reduceSub, Int32.reduceToNatClampNeg, and_self, or_self, and_false, false_and, not_true_eq_false, not_false_eq_true, K2 SH, kk, nI_ltI' (show t < 2 ^ 31 by omega) (show t < 2 ^ 31 by omega), Nat.lt_irrefl], g⟩
    | succ mm ih =>
      intro t H ht g
      have SH := GP_St S' hn' g
      have hlt : t < K := by omega
      have kk : zi H 2 1 = nI K := (g.2.2.2.1 2 1 (by omega)).trans k'
      have AH := isSh_at SH hj
      have qc : ∀ y, zi H (30 + 2 * j) y = zi h' (30 + 2 * j) y := fun y => g.2.2.2.1 _ y (by omega)
      have nt := c_newTale (d := d) AH hc60 (by rw [g.2.2.2.1 _ _ (by omega), q' _ _ (by omega)]; exact hcc) (show a + 2 + 6 * t + 5 < c by omega) (t := nI t) (by rw [qc, q' _ _ (by omega)]; exact o1 t hlt)
      simp only [qc] at nt
      obtain ⟨H', c1, g'⟩ := ih (t + 1) _ (by omega) (GP_step hn' g)
      refine ⟨H', Eq.trans ?_ c1, g'⟩
      have kz : zk (tN H (kdN (zi h' (30 + 2 * j) (a + 2 + 6 * t + 1))) (nI t) (zi h' (30 + 2 * j) (a + 2 + 6 * t + 2) - 48) (zi h' (30 + 2 * j) (a + 2 + 6 * t + 3) - 48) (zi h' (30 + 2 * j) (a + 2 + 6 * t + 4) - 48) (zi h' (30 + 2 * j) (a + 2 + 6 * t + 5) - 48)) (zn H) = (kcls (kdN (zi h' (30 + 2 * j) (a + 2 + 6 * t + 1))), 0) := by rw [zk_tN, if_pos rfl]
      have k3 : zk (tN H (kdN (zi h' (30 + 2 * j) (a + 2 + 6 * t + 1))) (nI t) (zi h' (30 + 2 * j) (a + 2 + 6 * t + 2) - 48) (zi h' (30 + 2 * j) (a + 2 + 6 * t + 3) - 48) (zi h' (30 + 2 * j) (a + 2 + 6 * t + 4) - 48) (zi h' (30 + 2 * j) (a + 2 + 6 * t + 5) - 48)) 3 = (13, 8) := by rw [zk_tN, if_neg (by have := g.1; omega)]; exact K3 SH
      have i1 : nI a + 2 = nI (a + 2) := nI_add a 2
      have i2 : 6 * nI t = nI (6 * t) := pk_mul 6 t
      rw [u_X1_grow_32]
      simp +decide only [u_X1_grow_0, u_X1_grow_1, u_X1_grow_2, u_X1_grow_3, u_X1_grow_4, u_X1_grow_5, u_X1_grow_8, u_X1_grow_10, u_X1_grow_11, u_X1_grow_14, u_X1_grow_15, u_X1_grow_16, u_X1_grow_17, u_X1_grow_18, u_X1_grow_20, u_X1_grow_21, u_X1_grow_23, u_X1_grow_26, u_X1_grow_29, u_X1_grow_30, u_X1_grow_34, u_X1_grow_35, u_X1_grow_38, u_X1_grow_41, u_X1_grow_42, u_X1_grow_45, u_X1_grow_47, u_X1_grow_49, u_X1_grow_50, u_X1_grow_51, u_X1_grow_52, u_X1_grow_53, u_X1_grow_55, u_X1_grow_57, u_X1_grow_58, u_X1_grow_59, u_X1_grow_62, u_X1_grow_63, u_X1_grow_66, u_X1_grow_69, zcl_i, zcl_r, zcl_l, zcl_0, Option.bind_some, Option.bind_none, Option.toList_some, Option.toList_none, List.cons_append, List.nil_append, zk_wI, zk_wR, zk_wC, zr_wI, zr_wC, zi_wR, zn_wI, zn_wR, zn_wC, if_true, if_false, true_or, or_true, or_false, false_or, true_and, and_true, ↓reduceIte, reduceCtorEq, Nat.reduceEqDiff, Nat.reduceLT, Nat.reduceLeDiff, Nat.reduceAdd, Nat.reduceSub, Nat.reduceMul, Int32.reduceLT, Int32.reduceLE, Int32.reduceAdd, Int32.reduceMul, Int32.reduceSub, Int32.reduceToNatClampNeg, and_self, or_self, and_false, false_and, not_true_eq_false, not_false_eq_true, K2 SH, R2_2 SH, kk, nI_ltI' (show t < 2 ^ 31 by omega) (show K < 2 ^ 31 by omega), hlt, i1, i2, nI_add, nt, kz, k3, kcls_fit, zix_nI (show t < 8 by omega) (by decide), nI_1]
  have g0 : GP h' h' (30 + 2 * j) a 0 := ⟨rfl, rfl, fun _ _ => rfl, fun _ _ _ => rfl, fun _ _ _ _ => rfl, fun u hu => absurd hu (by omega)⟩
  obtain ⟨H, c1, g1⟩ := key K 0 h' (by omega) g0
  refine ⟨H, ?_, g1⟩
  rw [e_X1_grow]
  have i1 : nI a + 1 = nI (a + 1) := nI_1 a
  simp +decide only [u_X1_grow_0, u_X1_grow_1, u_X1_grow_2, u_X1_grow_3, u_X1_grow_4, u_X1_grow_5, u_X1_grow_8, u_X1_grow_10, u_X1_grow_11, u_X1_grow_14, u_X1_grow_15, u_X1_grow_16, u_X1_grow_17, u_X1_grow_18, u_X1_grow_20, u_X1_grow_21, u_X1_grow_23, u_X1_grow_26, u_X1_grow_29, u_X1_grow_30, u_X1_grow_34, u_X1_grow_35, u_X1_grow_38, u_X1_grow_41, u_X1_grow_42, u_X1_grow_45, u_X1_grow_47, u_X1_grow_49, u_X1_grow_50, u_X1_grow_51, u_X1_grow_52, u_X1_grow_53, u_X1_grow_55, u_X1_grow_57, u_X1_grow_58, u_X1_grow_59, u_X1_grow_62, u_X1_grow_63, u_X1_grow_66, u_X1_grow_69, zcl_i, zcl_r, zcl_l, zcl_0, Option.bind_some, Option.bind_none, Option.toList_some, Option.toList_none, List.cons_append, List.nil_append, zk_wI, zk_wR, zk_wC, zr_wI, zr_wC, zi_wR, zn_wI, zn_wR, zn_wC, if_true, if_false, true_or, or_true, or_false, false_or, true_and, and_true, ↓reduceIte, reduceCtorEq, Nat.reduceEqDiff, Nat.reduceLT, Nat.reduceLeDiff, Nat.reduceAdd, Nat.reduceSub, Nat.reduceMul, Int32.reduceLT, Int32.reduceLE, Int32.reduceAdd, Int32.reduceMul, Int32.reduceSub, Int32.reduceToNatClampNeg, and_self, or_self, and_false, false_and, not_true_eq_false, not_false_eq_true, i1, A.1, c_read A hc60 hcc (show a + 1 < c by omega), K2 S, ed, e8, hh']
  exact c1
