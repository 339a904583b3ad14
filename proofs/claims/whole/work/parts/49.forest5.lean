/-! forest: both -/
def CP (G H : zH) (t : Nat) : Prop := zn H = zn G ∧ zu H = zu G ∧ (∀ a, zk H a = zk G a) ∧ (∀ a j, zr H a j = zr G a j) ∧ (∀ x y, ¬ (38 ≤ x ∧ x ≤ 42) → zi H x y = zi G x y) ∧ ∀ u, u < t → zi H 38 u = zi G 43 u ∧ zi H 39 u = zi G 44 u ∧ zi H 40 u = zi G 45 u ∧ zi H 41 u = zi G 46 u ∧ zi H 42 u = zi G 47 u
theorem CP_step {G H : zH} {t : Nat} (c : CP G H t) : CP G (zwI (zwI (zwI (zwI (zwI H 38 t (zi G 43 t)) 39 t (zi G 44 t)) 40 t (zi G 45 t)) 41 t (zi G 46 t)) 42 t (zi G 47 t)) (t + 1) := by
  obtain ⟨c1, c2, c3, c4, c5, c6⟩ := c
  refine ⟨c1, c2, c3, c4, fun x y hx => ?_, fun u hu => ?_⟩
  · rw [zi_wI, if_neg (by omega), zi_wI, if_neg (by omega), zi_wI, if_neg (by omega), zi_wI, if_neg (by omega), zi_wI, if_neg (by omega)]
    exact c5 x y hx
  · by_cases e : u = t
    · subst e
      simp [zi_wI]
    · have := c6 u (by omega)
      simp [zi_wI, e, this]
theorem l_forest {d : Nat} {G : zH} (S : St G) {K : Nat} (hK : K ≤ 8) (k2 : zi G 37 2 = nI K) {l1 l2 l3 l4 l5 : Int32} : ∀ (mm t : Nat) (H : zH), t + mm = K → CP G H t → ∃ H', zX (d + 1) tb_X11_forest 98 [some (.inr (.inr (some 37))), some (.inl l1), some (.inl l2), some (.inl l3), some (.inl l4), some (.inl l5), some (.inl (nI t))] [] H = some (some (.inl (nI K)), zwI (zwI (zwI (zwI H' 37 8 0) 37 9 0) 37 34 0) 37 0 0) ∧ CP G H' K := by
  intro mm
  induction mm with
  | zero =>
    intro t H ht c
    have e : t = K := by omega
    subst e
    have SH : St H := ⟨fun a h1 h2 => (c.2.2.1 a).trans (S.1 a h1 h2), fun a j r hr => (c.2.2.2.1 a j).trans (S.2 a j r hr)⟩
    have k2' : zi H 37 2 = nI t := (c.2.2.2.2.1 37 2 (by omega)).trans k2
    have k2'' : ∀ v w x, zi (zwI (zwI (zwI H 37 8 v) 37 9 w) 37 34 x) 37 2 = nI t := fun v w x => by
      rw [zi_wI, if_neg (by omega), zi_wI, if_neg (by omega), zi_wI, if_neg (by omega)]; exact k2'
    have S4 : ∀ v w x, St (zwI (zwI (zwI H 37 8 v) 37 9 w) 37 34 x) := fun _ _ _ => SH
    refine ⟨H, ?_, c⟩
    simp +decide only [u_X11_forest_0, u_X11_forest_1, u_X11_forest_4, u_X11_forest_7, u_X11_forest_8, u_X11_forest_9, u_X11_forest_12, u_X11_forest_13, u_X11_forest_14, u_X11_forest_15, u_X11_forest_16, u_X11_forest_19, u_X11_forest_22, u_X11_forest_25, u_X11_forest_26, u_X11_forest_28, u_X11_forest_31, u_X11_forest_32, u_X11_forest_33, u_X11_forest_34, u_X11_forest_35, u_X11_forest_36, u_X11_forest_38, u_X11_forest_39, u_X11_forest_42, u_X11_forest_44, u_X11_forest_46, u_X11_forest_49, u_X11_forest_51, u_X11_forest_52, u_X11_forest_53, u_X11_forest_55, u_X11_forest_56, u_X11_forest_57, u_X11_forest_58, u_X11_forest_59, u_X11_forest_61, u_X11_forest_64, u_X11_forest_67, u_X11_forest_68, u_X11_forest_70, u_X11_forest_71, u_X11_forest_74, u_X11_forest_75, u_X11_forest_78, u_X11_forest_79, u_X11_forest_80, u_X11_forest_81, u_X11_forest_84, u_X11_forest_87, u_X11_forest_88, u_X11_forest_89, u_X11_forest_92, u_X11_forest_95, u_X11_forest_96, u_X11_forest_98, u_X11_forest_100, u_X11_forest_101, u_X11_forest_104, u_X11_forest_107, u_X11_forest_108, u_X11_forest_111, u_X11_forest_113, u_X11_forest_114, u_X11_forest_117, u_X11_forest_119, u_X11_forest_120, u_X11_forest_121, u_X11_forest_122, u_X11_forest_125, u_X11_forest_127, u_X11_forest_128, u_X11_forest_131, u_X11_forest_133, u_X11_forest_134, u_X11_forest_135, u_X11_forest_136, u_X11_forest_139, u_X11_forest_141, u_X11_forest_142, u_X11_forest_145, u_X11_forest_147, u_X11_forest_148, u_X11_forest_149, u_X11_forest_150, u_X11_forest_153, u_X11_forest_155, u_X11_forest_156, u_X11_forest_159, u_X11_forest_161, u_X11_forest_162, u_X11_forest_163, u_X11_forest_164, u_X11_forest_167, u_X11_forest_169, u_X11_forest_170, u_X11_forest_173, u_X11_forest_175, u_X11_forest_176, u_X11_forest_177, u_X11_forest_180, u_X11_forest_183, u_X11_forest_184, u_X11_forest_185, u_X11_forest_188, u_X11_forest_189, u_X11_forest_190, u_X11_forest_193, u_X11_forest_194, u_X11_forest_195, u_X11_forest_198, u_X11_forest_199, u_X11_forest_200, u_X11_forest_203, u_X11_forest_206, zcl_i, zcl_r, zcl_l, zcl_0, Option.bind_some, Option.bind_none, Option.toList_some, Option.toList_none, List.cons_append, List.nil_append, zk_wI, zk_wR, zk_wC, zr_wI, zr_wC, zi_wR, zn_wI, zn_wR, zn_wC, if_true, if_false, true_or, or_true, or_false, false_or, true_and, and_true, ↓reduceIte, reduceCtorEq, Nat.reduceEqDiff, Nat.reduceLT, Nat.reduceLeDiff, Nat.reduceAdd, Nat.reduceSub, Nat.reduceMul, Int32.reduceLT, Int32.reduceLE, Int32.reduceAdd, Int32.reduceMul, Int32.reduceSub, Int32.reduceToNatClampNeg, and_self, or_self, and_false, false_and, not_true_eq_false, not_false_eq_true, K37 SH, k2', nI_ltI' (show t < 2 ^ 31 by omega) (show t < 2 ^ 31 by omega), Nat.lt_irrefl, k2'', c_refused (S4 _ _ _)]
  | succ mm ih =>
    intro t H ht c
    have SH : St H := ⟨fun a h1 h2 => (c.2.2.1 a).trans (S.1 a h1 h2), fun a j r hr => (c.2.2.2.1 a j).trans (S.2 a j r hr)⟩
    have k2' : zi H 37 2 = nI K := (c.2.2.2.2.1 37 2 (by omega)).trans k2
    have hlt : t < K := by omega
    have w43 : zi H 43 t = zi G 43 t := c.2.2.2.2.1 43 t (by omega)
    have w44 : ∀ v, zi (zwI H 38 t v) 44 t = zi G 44 t := fun v => by rw [zi_wI, if_neg (by omega)]; exact c.2.2.2.2.1 44 t (by omega)
    have w45 : ∀ v w, zi (zwI (zwI H 38 t v) 39 t w) 45 t = zi G 45 t := fun v w => by rw [zi_wI, if_neg (by omega), zi_wI, if_neg (by omega)]; exact c.2.2.2.2.1 45 t (by omega)
    have w46 : ∀ v w x, zi (zwI (zwI (zwI H 38 t v) 39 t w) 40 t x) 46 t = zi G 46 t := fun v w x => by rw [zi_wI, if_neg (by omega), zi_wI, if_neg (by omega), zi_wI, if_neg (by omega)]; exact c.2.2.2.2.1 46 t (by omega)
    have w47 : ∀ v w x y, zi (zwI (zwI (zwI (zwI H 38 t v) 39 t w) 40 t x) 41 t y) 47 t = zi G 47 t := fun v w x y => by rw [zi_wI, if_neg (by omega), zi_wI, if_neg (by omega), zi_wI, if_neg (by omega), zi_wI, if_neg (by omega)]; exact c.2.2.2.2.1 47 t (by omega)
    obtain ⟨H', c1, c2⟩ := ih (t + 1) _ (by omega) (CP_step c)
    refine ⟨H', Eq.trans ?_ c1, c2⟩
    rw [u_X11_forest_98]
    simp +decide only [u_X11_forest_0, u_X11_forest_1, u_X11_forest_4, u_X11_forest_7, u_X11_forest_8, u_X11_forest_9, u_X11_forest_12, u_X11_forest_13, u_X11_forest_14, u_X11_forest_15, u_X11_forest_16, u_X11_forest_19, u_X11_forest_22, u_X11_forest_25, u_X11_forest_26, u_X11_forest_28, u_X11_forest_31, u_X11_forest_32, u_X11_forest_33, u_X11_forest_34, u_X11_forest_35, u_X11_forest_36, u_X11_forest_38, u_X11_forest_39, u_X11_forest_42, u_X11_forest_44, u_X11_forest_46, u_X11_forest_49, u_X11_forest_51, u_X11_forest_52, u_X11_forest_53, u_X11_forest_55, u_X11_forest_56, u_X11_forest_57, u_X11_forest_58, u_X11_forest_59, u_X11_forest_61, u_X11_forest_64, u_X11_forest_67, u_X11_forest_68, u_X11_forest_70, u_X11_forest_71, u_X11_forest_74, u_X11_forest_75, u_X11_forest_78, u_X11_forest_79, u_X11_forest_80, u_X11_forest_81, u_X11_forest_84, u_X11_forest_87, u_X11_forest_88, u_X11_forest_89, u_X11_forest_92, u_X11_forest_95, u_X11_forest_96, u_X11_forest_100, u_X11_forest_101, u_X11_forest_104, u_X11_forest_107, u_X11_forest_108, u_X11_forest_111, u_X11_forest_113, u_X11_forest_114, u_X11_forest_117, u_X11_forest_119, u_X11_forest_120, u_X11_forest_121, u_X11_forest_122, u_X11_forest_125, u_X11_forest_127, u_X11_forest_128, u_X11_forest_131, u_X11_forest_133, u_X11_forest_134, u_X11_forest_135, u_X11_forest_136, u_X11_forest_139, u_X11_forest_141, u_X11_forest_142, u_X11_forest_145, u_X11_forest_147, u_X11_forest_148, u_X11_forest_149, u_X11_forest_150, u_X11_forest_153, u_X11_forest_155, u_X11_forest_156, u_X11_forest_159, u_X11_forest_161, u_X11_forest_162, u_X11_forest_163, u_X11_forest_164, u_X11_forest_167, u_X11_forest_169, u_X11_forest_170, u_X11_forest_173, u_X11_forest_175, u_X11_forest_176, u_X11_forest_177, u_X11_forest_180, u_X11_forest_183, u_X11_forest_184, u_X11_forest_185, u_X11_forest_188, u_X11_forest_189, u_X11_forest_190, u_X11_forest_193, u_X11_forest_194, u_X11_forest_195, u_X11_forest_198, u_X11_forest_199, u_X11_forest_200, u_X11_forest_203, u_X11_forest_206, zcl_i, zcl_r, zcl_l, zcl_0, Option.bind_some, Option.bind_none, Option.toList_some, Option.toList_none, List.cons_append, List.nil_append, zk_wI, zk_wR, zk_wC, zr_wI, zr_wC, zi_wR, zn_wI, zn_wR, zn_wC, if_true, if_false, true_or, or_true, or_false, false_or, true_and, and_true, ↓reduceIte, reduceCtorEq, Nat.reduceEqDiff, Nat.reduceLT, Nat.reduceLeDiff, Nat.reduceAdd, Nat.reduceSub, Nat.reduceMul, Int32.reduceLT, Int32.reduceLE, Int32.reduceAdd, Int32.reduceMul, Int32.reduceSub, Int32.reduceToNatClampNeg, and_self, or_self, and_false, false_and, not_true_eq_false, not_false_eq_true, K37 SH, R37_3 SH, R37_4 SH, R37_5 SH, R37_6 SH, R37_7 SH, R37_13 SH, R37_14 SH, R37_15 SH, R37_16 SH, R37_17 SH, K38 SH, K39 SH, K40 SH, K41 SH, K42 SH, K43 SH, K44 SH, K45 SH, K46 SH, K47 SH, k2', nI_ltI' (show t < 2 ^ 31 by omega) (show K < 2 ^ 31 by omega), hlt, zix_nI (show t < 8 by omega) (by decide), w43, w44, w45, w46, w47, nI_1]
theorem gO_m9 {p : Nat} : gO p (-9) = false := by
  unfold gO
  split
  · decide
  · split
    · decide
    · split
      · rfl
      · split
        · decide
        · split
          · decide
          · split <;> decide
theorem fstBad (ok : Nat → Bool) : ∀ m, (∀ y, y < m → ok y = true) ∨ ∃ x, x < m ∧ (∀ y, y < x → ok y = true) ∧ ok x = false := by
  intro m
  induction m with
  | zero => exact Or.inl fun y hy => absurd hy (by omega)
  | succ m ih =>
    rcases ih with h | ⟨x, h1, h2, h3⟩
    · cases e : ok m with
      | true =>
        refine Or.inl fun y hy => ?_
        by_cases q : y = m
        · rw [q]; exact e
        · exact h y (by omega)
      | false => exact Or.inr ⟨m, by omega, h, e⟩
    · exact Or.inr ⟨x, by omega, h2, h3⟩
/-- the text was one: both have the same forest -/
theorem forestY {h : zH} (I : Inv h) {j : Nat} (hj : j < 4) {a m c K : Nat} (e3 : a + m ≤ c) (e4 : c ≤ 60) (e5 : zi h (29 + 2 * j) 1 = nI c) (e6 : ∀ y, y < c → zi h (30 + 2 * j) y = zi h 62 (60 * j + y)) (hm : m = 2 + 6 * K) (hK : 1 ≤ K) (ok : ∀ y, y < m → gO y (zi h (30 + 2 * j) (a + y)) = true) :
    ∃ H1, zcall (zP zM) 39 9 [.inr (.inr (some 2)), .inr (.inr (some (29 + 2 * j))), .inl (nI a), .inl (nI m)] (zwI h 1 6 0) = some (none, H1) ∧ St H1 ∧ zi H1 60 j = zi h 60 j ∧ zi H1 61 j = zi h 61 j ∧ zi H1 2 1 = nI K ∧
    ∃ G, zcall (zP zM) 39 99 [.inr (.inr (some 37)), .inl (nI (60 * j + a)), .inl (nI m)] (zwI (zwI (zwI H1 1 1 0) 1 2 0) 4 0 0) = some (some (.inl 1), G) ∧ St G ∧ zi G 37 12 = nI K ∧ K ≤ 8 ∧
    ∀ H, CP (zwI (zwI G 37 1 (zi G 37 11)) 37 2 (nI K)) H K → Inv (zwI (zwI (zwI (zwI H 37 8 0) 37 9 0) 37 34 0) 37 0 0) ∧ zn H ≤ zn h + 8 ∧ zu H ≤ zu h + 40 := by
  obtain ⟨S, h1, N, T, K0, h4, h5, h6⟩ := I
  have S1 : St (zwI h 1 6 0) := S
  have q6 : ∀ x y, ¬ x = 1 → zi (zwI h 1 6 0) x y = zi h x y := fun x y hx => by rw [zi_wI, if_neg (fun z => hx z.1)]
  have hK8 : K ≤ 8 := by
    by_cases g : K ≤ 8
    · exact g
    · have := ok 50 (by omega)
      rw [gO_big (Nat.le_refl 50)] at this
      cases this
  have o1 : ∀ t, t < K → zi (zwI h 1 6 0) (30 + 2 * j) (a + 2 + 6 * t + 1) = 116 ∨ zi (zwI h 1 6 0) (30 + 2 * j) (a + 2 + 6 * t + 1) = 100 ∨ zi (zwI h 1 6 0) (30 + 2 * j) (a + 2 + 6 * t + 1) = 111 := fun t ht => by
    rw [q6 _ _ (by omega)]
    have := ok (2 + 6 * t + 1) (by omega)
    rw [gO_t1 (by omega), Bool.or_eq_true, Bool.or_eq_true, decide_eq_true_eq, decide_eq_true_eq, decide_eq_true_eq, show a + (2 + 6 * t + 1) = a + 2 + 6 * t + 1 by omega] at this
    rcases this with (q | q) | q
    · exact Or.inl q
    · exact Or.inr (Or.inl q)
    · exact Or.inr (Or.inr q)
  obtain ⟨H1, g1, g2⟩ := c_grow (d := 34) S1 h1 hj e4 (by rw [q6 _ _ (by omega)]; exact e5) e3 hm hK8 hK o1
  have hn' : 64 ≤ zn (zwI (zwI (zwI h 1 6 0) 2 0 (zi (zwI h 1 6 0) (30 + 2 * j) (a + 1) - 48)) 2 1 (nI K)) := h1
  have S' : St (zwI (zwI (zwI h 1 6 0) 2 0 (zi (zwI h 1 6 0) (30 + 2 * j) (a + 1) - 48)) 2 1 (nI K)) := S
  have SH1 : St H1 := GP_St S' hn' g2
  obtain ⟨u1, u2, u3, u4, u5, u6⟩ := g2
  have n0 : zn (zwI (zwI (zwI h 1 6 0) 2 0 (zi (zwI h 1 6 0) (30 + 2 * j) (a + 1) - 48)) 2 1 (nI K)) = zn h := rfl
  have m0 : zu (zwI (zwI (zwI h 1 6 0) 2 0 (zi (zwI h 1 6 0) (30 + 2 * j) (a + 1) - 48)) 2 1 (nI K)) = zu h := rfl
  have w' : ∀ x y, ¬ (x = 1 ∧ y = 6) → ¬ (x = 2 ∧ (y = 0 ∨ y = 1)) → zi (zwI (zwI (zwI h 1 6 0) 2 0 (zi (zwI h 1 6 0) (30 + 2 * j) (a + 1) - 48)) 2 1 (nI K)) x y = zi h x y := fun x y z1 z2 => by
    rw [zi_wI, if_neg (by omega), zi_wI, if_neg (by omega), zi_wI, if_neg (by omega)]
  have w20 : zi (zwI (zwI (zwI h 1 6 0) 2 0 (zi (zwI h 1 6 0) (30 + 2 * j) (a + 1) - 48)) 2 1 (nI K)) 2 0 = zi h (30 + 2 * j) (a + 1) - 48 := by
    rw [zi_wI, if_neg (by omega), zi_wI, if_pos ⟨rfl, rfl⟩, q6 _ _ (by omega)]
  have w21 : zi (zwI (zwI (zwI h 1 6 0) 2 0 (zi (zwI h 1 6 0) (30 + 2 * j) (a + 1) - 48)) 2 1 (nI K)) 2 1 = nI K := by
    rw [zi_wI, if_pos ⟨rfl, rfl⟩]
  have w16 : zi (zwI (zwI (zwI h 1 6 0) 2 0 (zi (zwI h 1 6 0) (30 + 2 * j) (a + 1) - 48)) 2 1 (nI K)) 1 6 = 0 := by
    rw [zi_wI, if_neg (by omega), zi_wI, if_neg (by omega), zi_wI, if_pos ⟨rfl, rfl⟩]
  generalize zwI (zwI (zwI h 1 6 0) 2 0 (zi (zwI h 1 6 0) (30 + 2 * j) (a + 1) - 48)) 2 1 (nI K) = h' at *
  have v1 : ∀ x y, x < 64 → ¬ (x = 1 ∧ y = 6) → ¬ (x = 2 ∧ (y = 0 ∨ y = 1)) → zi H1 x y = zi h x y := fun x y hx z1 z2 => (u4 x y (by omega)).trans (w' x y z1 z2)
  refine ⟨H1, g1, SH1, v1 60 j (by omega) (by omega) (by omega), v1 61 j (by omega) (by omega) (by omega), (u4 2 1 (by omega)).trans w21, ?_⟩
  have S2 : St (zwI (zwI (zwI H1 1 1 0) 1 2 0) 4 0 0) := SH1
  have v2 : ∀ x y, ¬ (x = 1 ∧ (y = 1 ∨ y = 2)) → ¬ (x = 4 ∧ y = 0) → zi (zwI (zwI (zwI H1 1 1 0) 1 2 0) 4 0 0) x y = zi H1 x y := fun x y z1 z2 => by
    rw [zi_wI, if_neg (by omega), zi_wI, if_neg (by omega), zi_wI, if_neg (by omega)]
  have v11 : zi (zwI (zwI (zwI H1 1 1 0) 1 2 0) 4 0 0) 1 1 = 0 := by rw [zi_wI, if_neg (by omega), zi_wI, if_neg (by omega), zi_wI, if_pos ⟨rfl, rfl⟩]
  have v12 : zi (zwI (zwI (zwI H1 1 1 0) 1 2 0) 4 0 0) 1 2 = 0 := by rw [zi_wI, if_neg (by omega), zi_wI, if_pos ⟨rfl, rfl⟩]
  have v40 : zi (zwI (zwI (zwI H1 1 1 0) 1 2 0) 4 0 0) 4 0 = 0 := by rw [zi_wI, if_pos ⟨rfl, rfl⟩]
  have n2 : zn (zwI (zwI (zwI H1 1 1 0) 1 2 0) 4 0 0) = zn H1 := rfl
  have m2 : zu (zwI (zwI (zwI H1 1 1 0) 1 2 0) 4 0 0) = zu H1 := rfl
  have k2 : ∀ x, zk (zwI (zwI (zwI H1 1 1 0) 1 2 0) 4 0 0) x = zk H1 x := fun _ => rfl
  have r2 : ∀ x y, zr (zwI (zwI (zwI H1 1 1 0) 1 2 0) 4 0 0) x y = zr H1 x y := fun _ _ => rfl
  generalize zwI (zwI (zwI H1 1 1 0) 1 2 0) 4 0 0 = H2 at *
  have cE : ∀ y, y < m → cd H2 (60 * j + a) m y = zi h (30 + 2 * j) (a + y) := fun y hy => by
    unfold cd
    rw [if_pos hy, v2 _ _ (by omega) (by omega), v1 _ _ (by omega) (by omega) (by omega), e6 (a + y) (by omega), Nat.add_assoc]
  obtain ⟨G, rc, RP0, p1, p2, p3, p4⟩ := rf_ok (d := 35) S2 Pres.rfl (f0 := 60 * j + a) (m := m) (K := K) (by omega) hm hK hK8 (fun y hy => by rw [cE y hy]; exact ok y hy)
  refine ⟨G, rc, RP0.St S2, p2, hK8, fun H cp => ?_⟩
  obtain ⟨c1, c2, c3, c4, c5, c6⟩ := cp
  have q0 := RP0.2.2.2.2
  have g3 : ∀ x y, ¬ (x = 37 ∧ (y = 1 ∨ y = 2)) → zi (zwI (zwI G 37 1 (zi G 37 11)) 37 2 (nI K)) x y = zi G x y := fun x y z1 => by
    rw [zi_wI, if_neg (by omega), zi_wI, if_neg (by omega)]
  have g31 : zi (zwI (zwI G 37 1 (zi G 37 11)) 37 2 (nI K)) 37 1 = zi h (30 + 2 * j) (a + 1) - 48 := by
    rw [zi_wI, if_neg (by omega), zi_wI, if_pos ⟨rfl, rfl⟩, p3, cE 1 (by omega)]
  have g32 : zi (zwI (zwI G 37 1 (zi G 37 11)) 37 2 (nI K)) 37 2 = nI K := by rw [zi_wI, if_pos ⟨rfl, rfl⟩]
  have ng : zn H = zn G := c1
  have mg : zu H = zu G := c2
  have kg : ∀ x, zk H x = zk G x := c3
  have rg : ∀ x y, zr H x y = zr G x y := c4
  generalize zwI (zwI G 37 1 (zi G 37 11)) 37 2 (nI K) = G3 at *
  have f4 : ∀ x y, ¬ (x = 37 ∧ (y = 8 ∨ y = 9 ∨ y = 34 ∨ y = 0)) → zi (zwI (zwI (zwI (zwI H 37 8 0) 37 9 0) 37 34 0) 37 0 0) x y = zi H x y := fun x y z1 => by
    rw [zi_wI, if_neg (by omega), zi_wI, if_neg (by omega), zi_wI, if_neg (by omega), zi_wI, if_neg (by omega)]
  have f8 : zi (zwI (zwI (zwI (zwI H 37 8 0) 37 9 0) 37 34 0) 37 0 0) 37 8 = 0 := by rw [zi_wI, if_neg (by omega), zi_wI, if_neg (by omega), zi_wI, if_neg (by omega), zi_wI, if_pos ⟨rfl, rfl⟩]
  have f9 : zi (zwI (zwI (zwI (zwI H 37 8 0) 37 9 0) 37 34 0) 37 0 0) 37 9 = 0 := by rw [zi_wI, if_neg (by omega), zi_wI, if_neg (by omega), zi_wI, if_pos ⟨rfl, rfl⟩]
  have f34 : zi (zwI (zwI (zwI (zwI H 37 8 0) 37 9 0) 37 34 0) 37 0 0) 37 34 = 0 := by rw [zi_wI, if_neg (by omega), zi_wI, if_pos ⟨rfl, rfl⟩]
  have f0 : zi (zwI (zwI (zwI (zwI H 37 8 0) 37 9 0) 37 34 0) 37 0 0) 37 0 = 0 := by rw [zi_wI, if_pos ⟨rfl, rfl⟩]
  have nf : zn (zwI (zwI (zwI (zwI H 37 8 0) 37 9 0) 37 34 0) 37 0 0) = zn H := rfl
  have mf : zu (zwI (zwI (zwI (zwI H 37 8 0) 37 9 0) 37 34 0) 37 0 0) = zu H := rfl
  have kf : ∀ x, zk (zwI (zwI (zwI (zwI H 37 8 0) 37 9 0) 37 34 0) 37 0 0) x = zk H x := fun _ => rfl
  have rF : ∀ x y, zr (zwI (zwI (zwI (zwI H 37 8 0) 37 9 0) 37 34 0) 37 0 0) x y = zr H x y := fun _ _ => rfl
  generalize zwI (zwI (zwI (zwI H 37 8 0) 37 9 0) 37 34 0) 37 0 0 = F at *
  have zH : zn H = zn h + K := by rw [ng, RP0.1, n2, u1, n0]
  have zU : zu H = zu h + 5 * K := by rw [mg, RP0.2.1, m2, u2, m0]
  have KF : ∀ x, zk F x = zk H1 x := fun x => by rw [kf, kg, RP0.2.2.1, k2]
  have RF : ∀ x y, zr F x y = zr H1 x y := fun x y => by rw [rF, rg, RP0.2.2.2.1, r2]
  have ZF : ∀ x y, ¬ (x = 37 ∧ (y = 8 ∨ y = 9 ∨ y = 34 ∨ y = 0 ∨ y = 1 ∨ y = 2)) → ¬ (38 ≤ x ∧ x ≤ 42) → zscr x y = false → zi F x y = zi H2 x y := fun x y z1 z2 z3 => by
    rw [f4 x y (by omega), c5 x y z2, g3 x y (by omega), q0 x y z3]
  have ZH : ∀ x y, x < 64 → ¬ (x = 37 ∧ (y = 8 ∨ y = 9 ∨ y = 34 ∨ y = 0 ∨ y = 1 ∨ y = 2)) → ¬ (38 ≤ x ∧ x ≤ 42) → zscr x y = false → ¬ (x = 1 ∧ (y = 1 ∨ y = 2)) → ¬ (x = 4 ∧ y = 0) → ¬ (x = 1 ∧ y = 6) → ¬ (x = 2 ∧ (y = 0 ∨ y = 1)) → zi F x y = zi h x y := fun x y z0 z1 z2 z3 z4 z5 z6 z7 => by
    rw [ZF x y z1 z2 z3, v2 x y z4 z5, v1 x y z0 z6 z7]
  refine ⟨⟨⟨fun x z1 z2 => (KF x).trans (SH1.1 x z1 z2), fun x y r hr => (RF x y).trans (SH1.2 x y r hr)⟩, by omega, K, ?_, ?_, ?_, ?_, ?_⟩, by omega, by omega⟩
  · refine ⟨hK8, ?_, ?_, ?_, ?_, fun t ht => ?_⟩
    · rw [ZF 2 1 (by omega) (by omega) (zscr_no (by omega)), v2 2 1 (by omega) (by omega), u4 2 1 (by omega)]; exact w21
    · rw [f4 37 2 (by omega), c5 37 2 (by omega)]; exact g32
    · rw [ZF 2 0 (by omega) (by omega) (zscr_no (by omega)), v2 2 0 (by omega) (by omega), u4 2 0 (by omega), w20, f4 37 1 (by omega), c5 37 1 (by omega), g31]
    · have := ok 1 (by omega)
      obtain ⟨s, s1, s2, s3⟩ := dgt_nI (lo := 1) (hi := 9) (by decide) (by decide) (of_decide_eq_true this)
      exact ⟨s, s2, fun _ => s1, by rw [f4 37 1 (by omega), c5 37 1 (by omega), g31]; exact s3⟩
    · obtain ⟨x1, x2, x3, x4, x5, x6, x7, x8⟩ := u6 t ht
      obtain ⟨y1, y2, y3, y4, y5⟩ := c6 t ht
      obtain ⟨p5, p6, p7, p8, p9⟩ := p4 t ht
      have W : ∀ i, i < 6 → zi h' (30 + 2 * j) (a + 2 + 6 * t + i) = zi h (30 + 2 * j) (a + (2 + 6 * t + i)) := fun i hi => by
        rw [w' _ _ (by omega) (by omega)]
        congr 1
        omega
      have d7 : ∀ i, 2 ≤ i → i ≤ 4 → ∃ q, q < 8 ∧ zi h (30 + 2 * j) (a + (2 + 6 * t + i)) - 48 = nI q := fun i z1 z2 => by
        have := ok (2 + 6 * t + i) (by omega)
        rw [gO_t2 (by omega) ⟨z1, z2⟩] at this
        obtain ⟨q, -, s2, s3⟩ := dgt_nI (lo := 0) (hi := 7) (by decide) (by decide) (of_decide_eq_true this)
        exact ⟨q, by omega, s3⟩
      have d3 : ∃ q, q < 4 ∧ zi h (30 + 2 * j) (a + (2 + 6 * t + 5)) - 48 = nI q := by
        have := ok (2 + 6 * t + 5) (by omega)
        rw [gO_t5 (by omega)] at this
        obtain ⟨q, -, s2, s3⟩ := dgt_nI (lo := 0) (hi := 3) (by decide) (by decide) (of_decide_eq_true this)
        exact ⟨q, by omega, s3⟩
      have Q38 : zi F 38 t = nI (kdN (zi h (30 + 2 * j) (a + (2 + 6 * t + 1)))) := by
        rw [f4 38 t (by omega), y1, g3 43 t (by omega), p5, cE _ (by omega)]
      have Q39 : zi F 39 t = zi h (30 + 2 * j) (a + (2 + 6 * t + 2)) - 48 := by
        rw [f4 39 t (by omega), y2, g3 44 t (by omega), p6, cE _ (by omega)]
      have Q40 : zi F 40 t = zi h (30 + 2 * j) (a + (2 + 6 * t + 3)) - 48 := by
        rw [f4 40 t (by omega), y3, g3 45 t (by omega), p7, cE _ (by omega)]
      have Q41 : zi F 41 t = zi h (30 + 2 * j) (a + (2 + 6 * t + 4)) - 48 := by
        rw [f4 41 t (by omega), y4, g3 46 t (by omega), p8, cE _ (by omega)]
      have Q42 : zi F 42 t = zi h (30 + 2 * j) (a + (2 + 6 * t + 5)) - 48 := by
        rw [f4 42 t (by omega), y5, g3 47 t (by omega), p9, cE _ (by omega)]
      have ZT : ∀ i, zi F (zn h' + t) i = zi H1 (zn h' + t) i := fun i => by
        rw [ZF _ i (by omega) (by omega) (zscr_no (by omega)), v2 _ i (by omega) (by omega)]
      obtain ⟨qa, qa1, qa2⟩ := d7 2 (by omega) (by omega)
      obtain ⟨qb, qb1, qb2⟩ := d7 3 (by omega) (by omega)
      obtain ⟨qc, qc1, qc2⟩ := d7 4 (by omega) (by omega)
      obtain ⟨qe, qe1, qe2⟩ := d3
      refine ⟨zn h' + t, kdN (zi h (30 + 2 * j) (a + (2 + 6 * t + 1))), (RF 3 t).trans x1, by omega, by omega, Q38, ⟨?_, kdN_le, ?_, ?_, ?_, ?_, ?_⟩, qa, qb, qc, qe, qa1, qb1, qc1, qe1, Q39.trans qa2, Q40.trans qb2, Q41.trans qc2, Q42.trans qe2⟩
      · rw [KF, x2, W 1 (by omega)]
      · rw [ZT]; exact x4
      · rw [ZT, x5, W 2 (by omega), Q39]
      · rw [ZT, x6, W 3 (by omega), Q40]
      · rw [ZT, x7, W 4 (by omega), Q41]
      · rw [ZT, x8, W 5 (by omega), Q42]
  · exact ⟨0, 0, by decide, by decide, by rw [ZF 1 1 (by omega) (by omega) (zscr_no (by omega)), v11]; rfl, f8, by rw [ZF 1 2 (by omega) (by omega) (zscr_no (by omega)), v12]; rfl, f9⟩
  · refine ⟨?_, ?_⟩
    · rw [ZF 1 6 (by omega) (by omega) (zscr_no (by omega)), v2 1 6 (by omega) (by omega), u4 1 6 (by omega), w16, f0]
    · rw [ZH 9 0 (by omega) (by omega) (by omega) (zscr_no (by omega)) (by omega) (by omega) (by omega) (by omega), ZH 37 42 (by omega) (by omega) (by omega) (zscr_no (by omega)) (by omega) (by omega) (by omega) (by omega)]
      exact h4.2
  · exact ⟨0, by decide, by rw [ZF 4 0 (by omega) (by omega) (zscr_no (by omega)), v40]; rfl, f34, fun i hi => absurd hi (by omega)⟩
  · intro k hk
    have Z := fun x y (z0 : (29 ≤ x ∧ x ≤ 36) ∨ (60 ≤ x ∧ x ≤ 62)) => ZH x y (by omega) (by omega) (by omega) (zscr_no (by omega)) (by omega) (by omega) (by omega) (by omega)
    rw [Z 60 k (by omega), Z 61 k (by omega), Z (29 + 2 * k) 0 (by omega), Z (29 + 2 * k) 1 (by omega)]
    rcases h6 k hk with h1 | ⟨c, l, h1, h2, h3, h4, h5, h6, h7⟩
    · exact Or.inl h1
    · refine Or.inr ⟨c, l, h1, h2, h3, h4, h5, h6, fun i hi => ?_⟩
      rw [Z (30 + 2 * k) i (by omega), Z 62 (60 * k + i) (by omega)]
      exact h7 i hi
