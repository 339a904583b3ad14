/-! game: the reference's search -/
theorem c_goWay {d : Nat} {h G : zH} (S : St h) (P : Pres h G) {N sp k t st kk x : Nat} (T : IvT h N) (s1 : zi h 37 1 = nI sp) (hs : sp ≤ 9) (hs1 : 1 ≤ sp) (hk : k + 1 < 6) (ht : t < N) (hst : st < sp) (hkk : kk < 256) {hk0 : Int32} (z50 : zi G 50 k = nI st) (z51 : zi G 51 k = nI kk) (z52 : zi G 52 k = nI x) (z53 : zi G 53 k = nI t) (z54 : zi G 54 k = hk0) : ∃ G' kk', zcall (zP zM) (d + 4) 120 [.inr (.inr (some 37)), .inl (nI k)] G = some (none, G') ∧ Pres h G' ∧ kk' < 256 ∧ zi G' 50 (k + 1) = nI (hmv h sp t st (nI kk)) ∧ zi G' 51 (k + 1) = nI kk' ∧ zi G' 52 (k + 1) = nI (x ||| 2 ^ t) ∧ zi G' 53 (k + 1) = -1 ∧ zi G' 56 (k + 1) = nI 99 ∧ (¬ hmv h sp t st (nI kk) = sp → nI kk' = if hk0 = 1 then nI kk ||| hte h t else nI kk) ∧ ∀ b i, i ≤ k → 50 ≤ b → b ≤ 56 → zi G' b i = zi G b i := by
  have SG := P.St S
  have hN8 := T.1
  have t8 : t < 8 := by omega
  obtain ⟨-, -, -, -, -, -, -, qa, qb, qc, qe, qa1, qb1, qc1, qe1, qa2, qb2, qc2, qe2⟩ := T.2.2.2.2.2 t ht
  have q := P.2.2.2.2
  have gt := fun d s => c_goTale (d := d) SG t8 (s := s)
  simp only [q 37 1 (zscr_no (by omega)), q 37 9 (zscr_no (by omega)), q 38 t (zscr_no (by omega)), q 39 t (zscr_no (by omega)), q 40 t (zscr_no (by omega)), q 42 t (zscr_no (by omega))] at gt
  obtain ⟨p1, p2, p3⟩ := tP_mv (kn := nI kk) s1 hs hs1 qe2 qe1 hst
  have gt0 := fun d => gt d (nI st, nI kk, 0, 0, 0, 0)
  generalize hs' : tP (zi h 37 1) (zi h 37 9) (zi h 38 t) (zi h 39 t) (zi h 40 t) (zi h 42 t) (nI t) (nI st, nI kk, 0, 0, 0, 0) = s' at p1 p2 gt0
  obtain ⟨a, b, c, e, f, g⟩ := s'
  have p1' : a = nI (hmv h sp t st (nI kk)) := p1
  have p2' : b = nI kk := p2
  subst p1'
  subst p2'
  have y50 : ∀ s, zi (mN G s) 50 k = nI st := fun s => (zi_mN (by omega)).trans z50
  have y54 : ∀ s, zi (mN G s) 54 k = hk0 := fun s => (zi_mN (by omega)).trans z54
  have y41 : ∀ s, zi (mN G s) 41 t = zi h 41 t := fun s => (zi_mN (by omega)).trans (q 41 t (zscr_no (by omega)))
  have y19 : ∀ s v, zi (zwI (mN G s) 50 (k + 1) v) 37 19 = s.2.1 := fun s v => by rw [zi_wI, if_neg (by omega)]; exact zi_mN19
  have y52 : ∀ s v w, zi (zwI (zwI (mN G s) 50 (k + 1) v) 51 (k + 1) w) 52 k = nI x := fun s v w => by rw [zi_wI, if_neg (by omega), zi_wI, if_neg (by omega)]; exact (zi_mN (by omega)).trans z52
  have ete : nI kk ||| 1 <<< (zi h 41 t &&& 31) = nI (kk ||| 2 ^ qc) := by rw [qc2, sh1 qc qc1, nI_or]
  have fin : ∀ s kk', ∀ b i, i ≤ k → 50 ≤ b → b ≤ 56 → zi (zwI (zwI (zwI (zwI (zwI (mN G s) 50 (k + 1) (nI (hmv h sp t st (nI kk)))) 51 (k + 1) (nI kk')) 52 (k + 1) (nI (x ||| 2 ^ t))) 53 (k + 1) (-1)) 56 (k + 1) 99) b i = zi G b i := fun s kk' b i hi h1 h2 => by
    rw [zi_wI, if_neg (by omega), zi_wI, if_neg (by omega), zi_wI, if_neg (by omega), zi_wI, if_neg (by omega), zi_wI, if_neg (by omega), zi_mN (by omega)]
  have PF : ∀ s kk', Pres h (zwI (zwI (zwI (zwI (zwI (mN G s) 50 (k + 1) (nI (hmv h sp t st (nI kk)))) 51 (k + 1) (nI kk')) 52 (k + 1) (nI (x ||| 2 ^ t))) 53 (k + 1) (-1)) 56 (k + 1) 99) := fun s kk' => (((((P.mN).w (by simp [zscr])).w (by simp [zscr])).w (by simp [zscr])).w (by simp [zscr])).w (by simp [zscr])
  by_cases hd : nI st + zi h 42 t < zi h 37 1
  · by_cases h1 : hk0 = 1
    · refine ⟨zwI (zwI (zwI (zwI (zwI (mN G (nI (hmv h sp t st (nI kk)), nI (kk ||| 2 ^ qc), c, e, f, g)) 50 (k + 1) (nI (hmv h sp t st (nI kk)))) 51 (k + 1) (nI (kk ||| 2 ^ qc))) 52 (k + 1) (nI (x ||| 2 ^ t))) 53 (k + 1) (-1)) 56 (k + 1) 99, kk ||| 2 ^ qc, ?_, PF _ _, Nat.or_lt_two_pow (n := 8) hkk (Nat.pow_lt_pow_right (by decide) qc1), ?_, ?_, ?_, ?_, ?_, ?_, fin _ _⟩
      · rw [e_X11_goWay]
        simp +decide only [u_X11_goWay_0, u_X11_goWay_1, u_X11_goWay_4, u_X11_goWay_5, u_X11_goWay_6, u_X11_goWay_7, u_X11_goWay_8, u_X11_goWay_9, u_X11_goWay_12, u_X11_goWay_13, u_X11_goWay_14, u_X11_goWay_17, u_X11_goWay_18, u_X11_goWay_19, u_X11_goWay_22, u_X11_goWay_23, u_X11_goWay_24, u_X11_goWay_27, u_X11_goWay_28, u_X11_goWay_29, u_X11_goWay_32, u_X11_goWay_35, u_X11_goWay_36, u_X11_goWay_39, u_X11_goWay_40, u_X11_goWay_41, u_X11_goWay_42, u_X11_goWay_45, u_X11_goWay_46, u_X11_goWay_46i, u_X11_goWay_47, u_X11_goWay_50, u_X11_goWay_51, u_X11_goWay_52, u_X11_goWay_55, u_X11_goWay_56, u_X11_goWay_57, u_X11_goWay_58, u_X11_goWay_59, u_X11_goWay_62, u_X11_goWay_63, u_X11_goWay_66, u_X11_goWay_67, u_X11_goWay_68, u_X11_goWay_69, u_X11_goWay_70, u_X11_goWay_73, u_X11_goWay_74, u_X11_goWay_75, u_X11_goWay_78, u_X11_goWay_79, u_X11_goWay_80, u_X11_goWay_81, u_X11_goWay_82, u_X11_goWay_85, u_X11_goWay_86, u_X11_goWay_87, u_X11_goWay_90, u_X11_goWay_91, u_X11_goWay_92, u_X11_goWay_93, u_X11_goWay_94, u_X11_goWay_97, u_X11_goWay_98, u_X11_goWay_99, u_X11_goWay_100, u_X11_goWay_101, u_X11_goWay_102, u_X11_goWay_103, u_X11_goWay_104, u_X11_goWay_105, u_X11_goWay_108, u_X11_goWay_109, u_X11_goWay_110, u_X11_goWay_111, u_X11_goWay_112, u_X11_goWay_113, u_X11_goWay_114, u_X11_goWay_117, u_X11_goWay_118, u_X11_goWay_119, u_X11_goWay_120, u_X11_goWay_122, u_X11_goWay_123, zcl_i, zcl_r, zcl_l, zcl_0, Option.bind_some, Option.bind_none, Option.toList_some, Option.toList_none, List.cons_append, List.nil_append, zk_wI, zk_wR, zk_wC, zr_wI, zr_wC, zi_wR, zn_wI, zn_wR, zn_wC, if_true, if_false, true_or, or_true, or_false, false_or, true_and, and_true, ↓reduceIte, reduceCtorEq, Nat.reduceEqDiff, Nat.reduceLT, Nat.reduceLeDiff, Nat.reduceAdd, Nat.reduceSub, Nat.reduceMul, Int32.reduceLT, Int32.reduceLE, Int32.reduceAdd, Int32.reduceMul, Int32.reduceSub, Int32.reduceToNatClampNeg, and_self, or_self, and_false, false_and, not_true_eq_false, not_false_eq_true, zk_mN, zr_mN, K37 SG, R37_27 SG, R37_28 SG, R37_29 SG, R37_30 SG, R37_31 SG, R37_33 SG, R37_6 SG, K41 SG, K50 SG, K51 SG, K52 SG, K53 SG, K54 SG, K56 SG, zix_nI (show k < 6 by omega) (by decide), zix_nI hk (by decide), zix_nI t8 (by decide), z53, z51, c_beginNight SG, y50, mN_18, gt0, hd, y54, h1, zi_mN19, y41, ete, mN_19, nI_1, zi_mN18, y19, y52, sh1 t t8, nI_or]
      · simp [zi_wI]
      · simp [zi_wI]
      · simp [zi_wI]
      · simp [zi_wI]
      · simp [zi_wI]; rfl
      · intro _
        rw [if_pos h1, ← ete]
        rfl
    · refine ⟨zwI (zwI (zwI (zwI (zwI (mN G (nI (hmv h sp t st (nI kk)), nI kk, c, e, f, g)) 50 (k + 1) (nI (hmv h sp t st (nI kk)))) 51 (k + 1) (nI kk)) 52 (k + 1) (nI (x ||| 2 ^ t))) 53 (k + 1) (-1)) 56 (k + 1) 99, kk, ?_, PF _ _, hkk, ?_, ?_, ?_, ?_, ?_, ?_, fin _ _⟩
      · rw [e_X11_goWay]
        simp +decide only [u_X11_goWay_0, u_X11_goWay_1, u_X11_goWay_4, u_X11_goWay_5, u_X11_goWay_6, u_X11_goWay_7, u_X11_goWay_8, u_X11_goWay_9, u_X11_goWay_12, u_X11_goWay_13, u_X11_goWay_14, u_X11_goWay_17, u_X11_goWay_18, u_X11_goWay_19, u_X11_goWay_22, u_X11_goWay_23, u_X11_goWay_24, u_X11_goWay_27, u_X11_goWay_28, u_X11_goWay_29, u_X11_goWay_32, u_X11_goWay_35, u_X11_goWay_36, u_X11_goWay_39, u_X11_goWay_40, u_X11_goWay_41, u_X11_goWay_42, u_X11_goWay_45, u_X11_goWay_46, u_X11_goWay_46i, u_X11_goWay_47, u_X11_goWay_50, u_X11_goWay_51, u_X11_goWay_52, u_X11_goWay_55, u_X11_goWay_56, u_X11_goWay_57, u_X11_goWay_58, u_X11_goWay_59, u_X11_goWay_62, u_X11_goWay_63, u_X11_goWay_66, u_X11_goWay_67, u_X11_goWay_68, u_X11_goWay_69, u_X11_goWay_70, u_X11_goWay_73, u_X11_goWay_74, u_X11_goWay_75, u_X11_goWay_78, u_X11_goWay_79, u_X11_goWay_80, u_X11_goWay_81, u_X11_goWay_82, u_X11_goWay_85, u_X11_goWay_86, u_X11_goWay_87, u_X11_goWay_90, u_X11_goWay_91, u_X11_goWay_92, u_X11_goWay_93, u_X11_goWay_94, u_X11_goWay_97, u_X11_goWay_98, u_X11_goWay_99, u_X11_goWay_100, u_X11_goWay_101, u_X11_goWay_102, u_X11_goWay_103, u_X11_goWay_104, u_X11_goWay_105, u_X11_goWay_108, u_X11_goWay_109, u_X11_goWay_110, u_X11_goWay_111, u_X11_goWay_112, u_X11_goWay_113, u_X11_goWay_114, u_X11_goWay_117, u_X11_goWay_118, u_X11_goWay_119, u_X11_goWay_120, u_X11_goWay_122, u_X11_goWay_123, zcl_i, zcl_r, zcl_l, zcl_0, Option.bind_some, Option.bind_none, Option.toList_some, Option.toList_none, List.cons_append, List.nil_append, zk_wI, zk_wR, zk_wC, zr_wI, zr_wC, zi_wR, zn_wI, zn_wR, zn_wC, if_true, if_false, true_or, or_true, or_false, false_or, true_and, and_true, ↓reduceIte, reduceCtorEq, Nat.reduceEqDiff, Nat.reduceLT, Nat.reduceLeDiff, Nat.reduceAdd, Nat.reduceSub, Nat.reduceMul, Int32.reduceLT, Int32.reduceLE, Int32.reduceAdd, Int32.reduceMul, Int32.reduceSub, Int32.reduceToNatClampNeg, and_self, or_self, and_false, false_and, not_true_eq_false, not_false_eq_true, zk_mN, zr_mN, K37 SG, R37_27 SG, R37_28 SG, R37_29 SG, R37_30 SG, R37_31 SG, R37_33 SG, K50 SG, K51 SG, K52 SG, K53 SG, K54 SG, K56 SG, zix_nI (show k < 6 by omega) (by decide), zix_nI hk (by decide), z53, z51, c_beginNight SG, y50, mN_18, gt0, hd, y54, h1, zi_mN18, y19, y52, sh1 t t8, nI_or, nI_1]
      · simp [zi_wI]
      · simp [zi_wI]
      · simp [zi_wI]
      · simp [zi_wI]
      · simp [zi_wI]; rfl
      · intro _
        rw [if_neg h1]
  · refine ⟨zwI (zwI (zwI (zwI (zwI (mN G (nI (hmv h sp t st (nI kk)), nI kk, c, e, f, g)) 50 (k + 1) (nI (hmv h sp t st (nI kk)))) 51 (k + 1) (nI kk)) 52 (k + 1) (nI (x ||| 2 ^ t))) 53 (k + 1) (-1)) 56 (k + 1) 99, kk, ?_, PF _ _, hkk, ?_, ?_, ?_, ?_, ?_, ?_, fin _ _⟩
    · rw [e_X11_goWay]
      simp +decide only [u_X11_goWay_0, u_X11_goWay_1, u_X11_goWay_4, u_X11_goWay_5, u_X11_goWay_6, u_X11_goWay_7, u_X11_goWay_8, u_X11_goWay_9, u_X11_goWay_12, u_X11_goWay_13, u_X11_goWay_14, u_X11_goWay_17, u_X11_goWay_18, u_X11_goWay_19, u_X11_goWay_22, u_X11_goWay_23, u_X11_goWay_24, u_X11_goWay_27, u_X11_goWay_28, u_X11_goWay_29, u_X11_goWay_32, u_X11_goWay_35, u_X11_goWay_36, u_X11_goWay_39, u_X11_goWay_40, u_X11_goWay_41, u_X11_goWay_42, u_X11_goWay_45, u_X11_goWay_46, u_X11_goWay_46i, u_X11_goWay_47, u_X11_goWay_50, u_X11_goWay_51, u_X11_goWay_52, u_X11_goWay_55, u_X11_goWay_56, u_X11_goWay_57, u_X11_goWay_58, u_X11_goWay_59, u_X11_goWay_62, u_X11_goWay_63, u_X11_goWay_66, u_X11_goWay_67, u_X11_goWay_68, u_X11_goWay_69, u_X11_goWay_70, u_X11_goWay_73, u_X11_goWay_74, u_X11_goWay_75, u_X11_goWay_78, u_X11_goWay_79, u_X11_goWay_80, u_X11_goWay_81, u_X11_goWay_82, u_X11_goWay_85, u_X11_goWay_86, u_X11_goWay_87, u_X11_goWay_90, u_X11_goWay_91, u_X11_goWay_92, u_X11_goWay_93, u_X11_goWay_94, u_X11_goWay_97, u_X11_goWay_98, u_X11_goWay_99, u_X11_goWay_100, u_X11_goWay_101, u_X11_goWay_102, u_X11_goWay_103, u_X11_goWay_104, u_X11_goWay_105, u_X11_goWay_108, u_X11_goWay_109, u_X11_goWay_110, u_X11_goWay_111, u_X11_goWay_112, u_X11_goWay_113, u_X11_goWay_114, u_X11_goWay_117, u_X11_goWay_118, u_X11_goWay_119, u_X11_goWay_120, u_X11_goWay_122, u_X11_goWay_123, zcl_i, zcl_r, zcl_l, zcl_0, Option.bind_some, Option.bind_none, Option.toList_some, Option.toList_none, List.cons_append, List.nil_append, zk_wI, zk_wR, zk_wC, zr_wI, zr_wC, zi_wR, zn_wI, zn_wR, zn_wC, if_true, if_false, true_or, or_true, or_false, false_or, true_and, and_true, ↓reduceIte, reduceCtorEq, Nat.reduceEqDiff, Nat.reduceLT, Nat.reduceLeDiff, Nat.reduceAdd, Nat.reduceSub, Nat.reduceMul, Int32.reduceLT, Int32.reduceLE, Int32.reduceAdd, Int32.reduceMul, Int32.reduceSub, Int32.reduceToNatClampNeg, and_self, or_self, and_false, false_and, not_true_eq_false, not_false_eq_true, zk_mN, zr_mN, K37 SG, R37_27 SG, R37_28 SG, R37_29 SG, R37_30 SG, R37_31 SG, R37_33 SG, K50 SG, K51 SG, K52 SG, K53 SG, K54 SG, K56 SG, zix_nI (show k < 6 by omega) (by decide), zix_nI hk (by decide), z53, z51, c_beginNight SG, y50, mN_18, gt0, hd, zi_mN18, y19, y52, sh1 t t8, nI_or, nI_1]
    · simp [zi_wI]
    · simp [zi_wI]
    · simp [zi_wI]
    · simp [zi_wI]
    · simp [zi_wI]; rfl
    · intro z
      exact absurd (p3 z) hd
def EN (h : zH) (sp N n D m k : Nat) : Prop := ∀ (G : zH) (st x kk : Nat) (l3 l4 : Option zV), Pres h G → zi G 50 k = nI st → zi G 51 k = nI kk → zi G 52 k = nI x → zi G 53 k = -1 → zi G 56 k = nI 99 → st ≤ sp → x < 2 ^ N → pc x = k → kk < 256 → ∃ G' o l4', zX D tb_X11_play 41 [some (.inr (.inr (some 37))), some (.inl (nI n)), some (.inl (nI k)), l3, l4] [] G = zX D tb_X11_play 129 [some (.inr (.inr (some 37))), some (.inl (nI n)), some (.inl (nI k)), some (.inl o), l4'] [.inl (nI (gV (hmv h sp) (hte h) sp N m st (nI kk) x))] G' ∧ Pres h G' ∧ (∀ b i, i < k → 50 ≤ b → b ≤ 56 → zi G' b i = zi G b i) ∧ (¬ st = sp → ¬ m = 0 → zi G' 56 k = nI (gV (hmv h sp) (hte h) sp N m st (nI kk) x))
theorem c_EN {d : Nat} {h : zH} (S : St h) {N sp n : Nat} (T : IvT h N) (s1 : zi h 37 1 = nI sp) (hs : sp ≤ 9) (hs1 : 1 ≤ sp) (hn : n ≤ 4) : ∀ (m k : Nat), k + m = min n N → EN h sp N n (d + 5) m k := by
  have hN8 := T.1
  have p8 : 2 ^ N ≤ 2 ^ 8 := Nat.pow_le_pow_right (by decide) hN8
  have z1 : ∀ G, Pres h G → zi G 37 1 = nI sp := fun G P => (P.2.2.2.2 37 1 (zscr_no (by omega))).trans s1
  have z2 : ∀ G, Pres h G → zi G 37 2 = nI N := fun G P => (P.2.2.2.2 37 2 (zscr_no (by omega))).trans T.2.2.1
  intro m
  induction m with
  | zero =>
    intro k hk G st x kk l3 l4 P z50 z51 z52 z53 z56 hst hx hp hkk
    have o : k = n ∨ st = sp ∨ x = 2 ^ N - 1 := by
      by_cases c : k = n
      · exact Or.inl c
      · exact Or.inr (Or.inr (pc_all N (by omega) x hx (by omega)))
    exact ⟨G, 1, l4, pl_over (P.St S) (by omega) hn hst hs hN8 (by omega) (z1 G P) (z2 G P) z50 z52 o, P, fun _ _ _ _ _ => rfl, fun _ z => absurd rfl z⟩
  | succ m ih =>
    intro k hk G0 st x kk l3 l4 P0 z50 z51 z52 z53 z56 hst hx hp hkk
    by_cases hsp : st = sp
    · refine ⟨G0, 1, l4, ?_, P0, fun _ _ _ _ _ => rfl, fun z => absurd hsp z⟩
      rw [pl_over (P0.St S) (by omega) hn hst hs hN8 (by omega) (z1 G0 P0) (z2 G0 P0) z50 z52 (Or.inr (Or.inl hsp)), hsp, gV_sp]
    · have c1 : ¬ k = n := by omega
      have c3 : ¬ x = 2 ^ N - 1 := fun z => by
        have := pc_not N (by omega)
        rw [← z, hp] at this
        omega
      have hst' : st < sp := by omega
      rw [gV_succ hst']
      generalize hfs : gM (hmv h sp) (hte h) sp N m st (nI kk) x = fs
      have fle : ∀ t, fs t ≤ sp := fun t => by
        rw [← hfs]
        unfold gM
        have mle : hmv h sp t st (nI kk) ≤ sp := mvN_le
        have h1 := gV_le (mv := hmv h sp) (te := hte h) (sp := sp) (N := N) (m := m) (kn := nI kk) (x := x ||| 2 ^ t) mle
        have h2 := gV_le (mv := hmv h sp) (te := hte h) (sp := sp) (N := N) (m := m) (kn := nI kk ||| hte h t) (x := x ||| 2 ^ t) mle
        omega
      obtain ⟨t0, t01, t02⟩ : ∃ t, t < N ∧ x.testBit t = false := by
        have := pc_un N (by omega) x hx (by omega)
        obtain ⟨t, z⟩ := Classical.not_forall.mp this
        obtain ⟨z1, z2⟩ := Classical.not_imp.mp z
        exact ⟨t, z1, by simpa using z2⟩
      rw [← gmn_99 hs t01 t02 (fle t0)]
      have loop : ∀ (i u : Nat) (G : zH) (l3 l4 : Option zV), N ≤ u + i → u ≤ N → Pres h G → zi G 50 k = nI st → zi G 51 k = nI kk → zi G 52 k = nI x → Rdy G k u (gmn x fs u 99) → (∀ b i, i < k → 50 ≤ b → b ≤ 56 → zi G b i = zi G0 b i) → ∃ G' o l4', zX (d + 5) tb_X11_play 41 [some (.inr (.inr (some 37))), some (.inl (nI n)), some (.inl (nI k)), l3, l4] [] G = zX (d + 5) tb_X11_play 129 [some (.inr (.inr (some 37))), some (.inl (nI n)), some (.inl (nI k)), some (.inl o), l4'] [.inl (nI (gmn x fs N 99))] G' ∧ Pres h G' ∧ (∀ b i, i < k → 50 ≤ b → b ≤ 56 → zi G' b i = zi G0 b i) ∧ zi G' 56 k = nI (gmn x fs N 99) := by
        intro i
        induction i with
        | zero =>
          intro u G l3 l4 h1 h2 P y50 y51 y52 R Q
          have eu : u = N := by omega
          subst eu
          have SG := P.St S
          obtain ⟨t, t1, t2, t3, t4, G1, n1, P1, n53, n54, n55, n56, nb, ni⟩ := nw_next (d := d + 3) S P hN8 (show k < 6 by omega) (show x < 256 by omega) (Nat.le_refl u) (z2 G P) y52 R
          have et : t = u := by omega
          subst et
          have S1 := P1.St S
          rw [if_neg (Nat.lt_irrefl t)] at n1
          refine ⟨G1, 0, l4, ?_, P1, fun b i hi h1 h2 => by rw [ni b i (by omega) h1 h2]; exact Q b i hi h1 h2, n56⟩
          rw [pl_in SG (by omega) hn hst hs hN8 (by omega) (z1 G P) (z2 G P) y50 y52 c1 hsp c3]
          simp +decide only [u_X11_play_0, u_X11_play_1, u_X11_play_2, u_X11_play_3, u_X11_play_6, u_X11_play_7, u_X11_play_8, u_X11_play_9, u_X11_play_10, u_X11_play_13, u_X11_play_14, u_X11_play_15, u_X11_play_18, u_X11_play_19, u_X11_play_20, u_X11_play_23, u_X11_play_24, u_X11_play_25, u_X11_play_26, u_X11_play_27, u_X11_play_30, u_X11_play_31, u_X11_play_32, u_X11_play_33, u_X11_play_34, u_X11_play_37, u_X11_play_38, u_X11_play_40, u_X11_play_41, u_X11_play_42, u_X11_play_45, u_X11_play_46, u_X11_play_47, u_X11_play_50, u_X11_play_51, u_X11_play_54, u_X11_play_55, u_X11_play_56, u_X11_play_57, u_X11_play_60, u_X11_play_63, u_X11_play_64, u_X11_play_67, u_X11_play_68, u_X11_play_69, u_X11_play_70, u_X11_play_71, u_X11_play_74, u_X11_play_75, u_X11_play_76, u_X11_play_77, u_X11_play_80, u_X11_play_81, u_X11_play_84, u_X11_play_85, u_X11_play_86, u_X11_play_87, u_X11_play_90, u_X11_play_91, u_X11_play_92, u_X11_play_95, u_X11_play_96, u_X11_play_99, u_X11_play_100, u_X11_play_101, u_X11_play_104, u_X11_play_107, u_X11_play_110, u_X11_play_111, u_X11_play_114, u_X11_play_115, u_X11_play_118, u_X11_play_119, u_X11_play_120, u_X11_play_123, u_X11_play_124, u_X11_play_127, u_X11_play_128, u_X11_play_131, u_X11_play_134, u_X11_play_135, u_X11_play_138, u_X11_play_139, u_X11_play_142, u_X11_play_143, u_X11_play_145, u_X11_play_146, u_X11_play_149, u_X11_play_150, u_X11_play_151, u_X11_play_154, u_X11_play_156, u_X11_play_159, u_X11_play_160, u_X11_play_163, u_X11_play_164, u_X11_play_165, u_X11_play_166, u_X11_play_169, u_X11_play_170, u_X11_play_173, u_X11_play_174, u_X11_play_175, zcl_i, zcl_r, zcl_l, zcl_0, Option.bind_some, Option.bind_none, Option.toList_some, Option.toList_none, List.cons_append, List.nil_append, zk_wI, zk_wR, zk_wC, zr_wI, zr_wC, zi_wR, zn_wI, zn_wR, zn_wC, if_true, if_false, true_or, or_true, or_false, false_or, true_and, and_true, ↓reduceIte, reduceCtorEq, Nat.reduceEqDiff, Nat.reduceLT, Nat.reduceLeDiff, Nat.reduceAdd, Nat.reduceSub, Nat.reduceMul, Int32.reduceLT, Int32.reduceLE, Int32.reduceAdd, Int32.reduceMul, Int32.reduceSub, Int32.reduceToNatClampNeg, and_self, or_self, and_false, false_and, not_true_eq_false, not_false_eq_true, K37 SG, n1, K37 S1, R37_33 S1, K56 S1, zix_nI (show k < 6 by omega) (by decide), n56]
        | succ i ih2 =>
          intro u G l3 l4 h1 h2 P y50 y51 y52 R Q
          have SG := P.St S
          obtain ⟨t, t1, t2, t3, t4, G1, n1, P1, n53, n54, n55, n56, nb, ni⟩ := nw_next (d := d + 3) S P hN8 (show k < 6 by omega) (show x < 256 by omega) h2 (z2 G P) y52 R
          have S1 := P1.St S
          have esk := gmn_skip (f := fs) (a := 99) t1 t3
          by_cases tN : t < N
          · rw [if_pos tN] at n1
            have hbt := t4 tN
            have t8 : t < 8 := by omega
            have w50 : zi G1 50 k = nI st := (nb 50 (by omega) (by omega)).trans y50
            have w51 : zi G1 51 k = nI kk := (nb 51 (by omega) (by omega)).trans y51
            have w52 : zi G1 52 k = nI x := (nb 52 (by omega) (by omega)).trans y52
            have x2 : x ||| 2 ^ t < 2 ^ N := Nat.or_lt_two_pow hx (Nat.pow_lt_pow_right (by decide) tN)
            have px : pc (x ||| 2 ^ t) = k + 1 := by rw [pc_up x (by omega) t t8 hbt, hp]
            have mle : hmv h sp t st (nI kk) ≤ sp := mvN_le
            obtain ⟨G2, k2, g1, g2, g3, g4, g5, g6, g7, g8, g9, g10⟩ := c_goWay (d := d + 1) S P1 T s1 hs hs1 (show k + 1 < 6 by omega) tN hst' hkk w50 w51 w52 n53 n54
            obtain ⟨G3, o3, l3', e1, P3, e3, -⟩ := ih (k + 1) (by omega) G2 (hmv h sp t st (nI kk)) (x ||| 2 ^ t) k2 (some (.inl 0)) l4 g2 g4 g5 g6 g7 g8 mle x2 px g3
            have S3 := P3.St S
            have v0 : gV (hmv h sp) (hte h) sp N m (hmv h sp t st (nI kk)) (nI k2) (x ||| 2 ^ t) = gV (hmv h sp) (hte h) sp N m (hmv h sp t st (nI kk)) (nI kk) (x ||| 2 ^ t) := by
              by_cases far : hmv h sp t st (nI kk) = sp
              · rw [far, gV_sp, gV_sp]
              · rw [g9 far]
                rfl
            rw [v0] at e1
            have vle := gV_le (mv := hmv h sp) (te := hte h) (sp := sp) (N := N) (m := m) (kn := nI kk) (x := x ||| 2 ^ t) mle
            have hfst : fs t = max (gV (hmv h sp) (hte h) sp N m (hmv h sp t st (nI kk)) (nI kk) (x ||| 2 ^ t)) (gV (hmv h sp) (hte h) sp N m (hmv h sp t st (nI kk)) (nI kk ||| hte h t) (x ||| 2 ^ t)) := by rw [← hfs]; rfl
            generalize gV (hmv h sp) (hte h) sp N m (hmv h sp t st (nI kk)) (nI kk) (x ||| 2 ^ t) = V0 at e1 vle hfst
            have fr3 : ∀ b, 50 ≤ b → b ≤ 56 → zi G3 b k = zi G1 b k := fun b b1 b2 => (e3 b k (by omega) b1 b2).trans (g10 b k (Nat.le_refl k) b1 b2)
            have r55 : (if zi G3 55 k < nI V0 then nI V0 else zi G3 55 k) = nI V0 := by
              rw [fr3 55 (by omega) (by omega), n55, if_pos]
              rw [Int32.lt_iff_toInt_lt, nI_toInt (by omega)]
              have : (-1 : Int32).toInt = -1 := by decide
              omega
            have up1 := pl_up (d := d + 5) S3 (n := n) (k := k) (v := V0) (by omega) (o := o3) (l4 := l3')
            rw [r55] at up1
            have P4 : Pres h (zwI G3 55 k (nI V0)) := P3.w (by simp [zscr])
            have S4 := P4.St S
            have fr4 : ∀ b, 50 ≤ b → b ≤ 56 → ¬ b = 55 → zi (zwI G3 55 k (nI V0)) b k = zi G1 b k := fun b b1 b2 b3 => by rw [zi_wI, if_neg (by omega)]; exact fr3 b b1 b2
            have s54 : zi (zwI G3 55 k (nI V0)) 54 k = 0 := (fr4 54 (by omega) (by omega) (by omega)).trans n54
            have s53 : zi (zwI G3 55 k (nI V0)) 53 k = nI t := (fr4 53 (by omega) (by omega) (by omega)).trans n53
            have s50 : zi (zwI G3 55 k (nI V0)) 50 k = nI st := (fr4 50 (by omega) (by omega) (by omega)).trans w50
            have s52 : zi (zwI G3 55 k (nI V0)) 52 k = nI x := (fr4 52 (by omega) (by omega) (by omega)).trans w52
            have hk1 := fun d => nw_hark (d := d) S4 (show k < 6 by omega) t8 s53 s54
            have P5 : Pres h (zwI (zwI G3 55 k (nI V0)) 54 k 1) := P4.w (by simp [zscr])
            have S5 := P5.St S
            have fr5 : ∀ b, 50 ≤ b → b ≤ 56 → ¬ b = 55 → ¬ b = 54 → zi (zwI (zwI G3 55 k (nI V0)) 54 k 1) b k = zi G1 b k := fun b b1 b2 b3 b4 => by rw [zi_wI, if_neg (by omega)]; exact fr4 b b1 b2 b3
            obtain ⟨G6, k6, j1, j2, j3, j4, j5, j6, j7, j8, j9, j10⟩ := c_goWay (d := d + 1) S P5 T s1 hs hs1 (show k + 1 < 6 by omega) tN hst' hkk ((fr5 50 (by omega) (by omega) (by omega) (by omega)).trans w50) ((fr5 51 (by omega) (by omega) (by omega) (by omega)).trans w51) ((fr5 52 (by omega) (by omega) (by omega) (by omega)).trans w52) ((fr5 53 (by omega) (by omega) (by omega) (by omega)).trans n53) (hk0 := 1) (by rw [zi_wI, if_pos ⟨rfl, rfl⟩])
            obtain ⟨G7, o7, l7', f1, P7, f3, -⟩ := ih (k + 1) (by omega) G6 (hmv h sp t st (nI kk)) (x ||| 2 ^ t) k6 (some (.inl 0)) (some (.inl (nI V0))) j2 j4 j5 j6 j7 j8 mle x2 px j3
            have S7 := P7.St S
            have v1 : gV (hmv h sp) (hte h) sp N m (hmv h sp t st (nI kk)) (nI k6) (x ||| 2 ^ t) = gV (hmv h sp) (hte h) sp N m (hmv h sp t st (nI kk)) (nI kk ||| hte h t) (x ||| 2 ^ t) := by
              by_cases far : hmv h sp t st (nI kk) = sp
              · rw [far, gV_sp, gV_sp]
              · rw [j9 far, if_pos rfl]
            rw [v1] at f1
            have vle1 := gV_le (mv := hmv h sp) (te := hte h) (sp := sp) (N := N) (m := m) (kn := nI kk ||| hte h t) (x := x ||| 2 ^ t) mle
            generalize gV (hmv h sp) (hte h) sp N m (hmv h sp t st (nI kk)) (nI kk ||| hte h t) (x ||| 2 ^ t) = V1 at f1 vle1 hfst
            have fr7 : ∀ b, 50 ≤ b → b ≤ 56 → zi G7 b k = zi (zwI (zwI G3 55 k (nI V0)) 54 k 1) b k := fun b b1 b2 => (f3 b k (by omega) b1 b2).trans (j10 b k (Nat.le_refl k) b1 b2)
            have q55 : zi G7 55 k = nI V0 := by rw [fr7 55 (by omega) (by omega), zi_wI, if_neg (by omega), zi_wI, if_pos ⟨rfl, rfl⟩]
            have r55' : (if zi G7 55 k < nI V1 then nI V1 else zi G7 55 k) = nI (fs t) := by
              rw [q55, hfst]
              by_cases z : V0 < V1
              · rw [if_pos (nI_lt z (by omega)), show max V0 V1 = V1 by omega]
              · rw [if_neg (nI_nlt (by omega) (by omega)), show max V0 V1 = V0 by omega]
            have up2 := pl_up (d := d + 5) S7 (n := n) (k := k) (v := V1) (by omega) (o := o7) (l4 := l7')
            rw [r55'] at up2
            have P8 : Pres h (zwI G7 55 k (nI (fs t))) := P7.w (by simp [zscr])
            have fr8 : ∀ b, 50 ≤ b → b ≤ 56 → ¬ b = 55 → ¬ b = 54 → zi (zwI G7 55 k (nI (fs t))) b k = zi G1 b k := fun b b1 b2 b3 b4 => by rw [zi_wI, if_neg (by omega), fr7 b b1 b2]; exact fr5 b b1 b2 b3 b4
            have R8 : Rdy (zwI G7 55 k (nI (fs t))) k (t + 1) (gmn x fs (t + 1) 99) := by
              refine Or.inr ⟨fs t, gmn x fs u 99, by omega, ?_, ?_, ?_, ?_, ?_, ?_, gmn_le⟩
              · rw [fr8 53 (by omega) (by omega) (by omega) (by omega), n53]; rfl
              · rw [zi_wI, if_neg (by omega), fr7 54 (by omega) (by omega), zi_wI, if_pos ⟨rfl, rfl⟩]
              · rw [zi_wI, if_pos ⟨rfl, rfl⟩]
              · rw [fr8 56 (by omega) (by omega) (by omega) (by omega), n56]
              · rw [gmn, if_neg (by rw [hbt]; decide), esk]
              · have := fle t; omega
            obtain ⟨G', o', l4', c5, c6⟩ := ih2 (t + 1) (zwI G7 55 k (nI (fs t))) (some (.inl o7)) (some (.inl (nI V1))) (by omega) (by omega) P8 ((fr8 50 (by omega) (by omega) (by omega) (by omega)).trans w50) ((fr8 51 (by omega) (by omega) (by omega) (by omega)).trans w51) ((fr8 52 (by omega) (by omega) (by omega) (by omega)).trans w52) R8 (fun b i hi b1 b2 => by
              rw [zi_wI, if_neg (by omega), f3 b i (by omega) b1 b2, j10 b i (by omega) b1 b2, zi_wI, if_neg (by omega), zi_wI, if_neg (by omega), e3 b i (by omega) b1 b2, g10 b i (by omega) b1 b2, ni b i (by omega) b1 b2]
              exact Q b i hi b1 b2)
            refine ⟨G', o', l4', ?_, c6⟩
            have a1 : zX (d + 5) tb_X11_play 41 [some (.inr (.inr (some 37))), some (.inl (nI n)), some (.inl (nI k)), l3, l4] [] G = zX (d + 5) tb_X11_play 41 [some (.inr (.inr (some 37))), some (.inl (nI n)), some (.inl (nI (k + 1))), some (.inl 0), l4] [] G2 := by
              rw [pl_in SG (by omega) hn hst hs hN8 (by omega) (z1 G P) (z2 G P) y50 y52 c1 hsp c3]
              simp +decide only [u_X11_play_0, u_X11_play_1, u_X11_play_2, u_X11_play_3, u_X11_play_6, u_X11_play_7, u_X11_play_8, u_X11_play_9, u_X11_play_10, u_X11_play_13, u_X11_play_14, u_X11_play_15, u_X11_play_18, u_X11_play_19, u_X11_play_20, u_X11_play_23, u_X11_play_24, u_X11_play_25, u_X11_play_26, u_X11_play_27, u_X11_play_30, u_X11_play_31, u_X11_play_32, u_X11_play_33, u_X11_play_34, u_X11_play_37, u_X11_play_38, u_X11_play_40, u_X11_play_42, u_X11_play_45, u_X11_play_46, u_X11_play_47, u_X11_play_50, u_X11_play_51, u_X11_play_54, u_X11_play_55, u_X11_play_56, u_X11_play_57, u_X11_play_60, u_X11_play_63, u_X11_play_64, u_X11_play_67, u_X11_play_68, u_X11_play_69, u_X11_play_70, u_X11_play_71, u_X11_play_74, u_X11_play_75, u_X11_play_76, u_X11_play_77, u_X11_play_80, u_X11_play_81, u_X11_play_84, u_X11_play_85, u_X11_play_86, u_X11_play_87, u_X11_play_90, u_X11_play_91, u_X11_play_92, u_X11_play_95, u_X11_play_96, u_X11_play_99, u_X11_play_100, u_X11_play_101, u_X11_play_104, u_X11_play_107, u_X11_play_110, u_X11_play_111, u_X11_play_114, u_X11_play_115, u_X11_play_118, u_X11_play_119, u_X11_play_120, u_X11_play_123, u_X11_play_124, u_X11_play_127, u_X11_play_128, u_X11_play_129, u_X11_play_131, u_X11_play_134, u_X11_play_135, u_X11_play_138, u_X11_play_139, u_X11_play_142, u_X11_play_143, u_X11_play_145, u_X11_play_146, u_X11_play_149, u_X11_play_150, u_X11_play_151, u_X11_play_154, u_X11_play_156, u_X11_play_159, u_X11_play_160, u_X11_play_163, u_X11_play_164, u_X11_play_165, u_X11_play_166, u_X11_play_169, u_X11_play_170, u_X11_play_173, u_X11_play_174, u_X11_play_175, zcl_i, zcl_r, zcl_l, zcl_0, Option.bind_some, Option.bind_none, Option.toList_some, Option.toList_none, List.cons_append, List.nil_append, zk_wI, zk_wR, zk_wC, zr_wI, zr_wC, zi_wR, zn_wI, zn_wR, zn_wC, if_true, if_false, true_or, or_true, or_false, false_or, true_and, and_true, ↓reduceIte, reduceCtorEq, Nat.reduceEqDiff, Nat.reduceLT, Nat.reduceLeDiff, Nat.reduceAdd, Nat.reduceSub, Nat.reduceMul, Int32.reduceLT, Int32.reduceLE, Int32.reduceAdd, Int32.reduceMul, Int32.reduceSub, Int32.reduceToNatClampNeg, and_self, or_self, and_false, false_and, not_true_eq_false, not_false_eq_true, K37 SG, n1, K37 S1, g1, nI_1]
            have a2 : zX (d + 5) tb_X11_play 41 [some (.inr (.inr (some 37))), some (.inl (nI n)), some (.inl (nI k)), some (.inl o3), some (.inl (nI V0))] [] (zwI G3 55 k (nI V0)) = zX (d + 5) tb_X11_play 41 [some (.inr (.inr (some 37))), some (.inl (nI n)), some (.inl (nI (k + 1))), some (.inl 0), some (.inl (nI V0))] [] G6 := by
              rw [pl_in S4 (by omega) hn hst hs hN8 (by omega) (z1 _ P4) (z2 _ P4) s50 s52 c1 hsp c3]
              simp +decide only [u_X11_play_0, u_X11_play_1, u_X11_play_2, u_X11_play_3, u_X11_play_6, u_X11_play_7, u_X11_play_8, u_X11_play_9, u_X11_play_10, u_X11_play_13, u_X11_play_14, u_X11_play_15, u_X11_play_18, u_X11_play_19, u_X11_play_20, u_X11_play_23, u_X11_play_24, u_X11_play_25, u_X11_play_26, u_X11_play_27, u_X11_play_30, u_X11_play_31, u_X11_play_32, u_X11_play_33, u_X11_play_34, u_X11_play_37, u_X11_play_38, u_X11_play_40, u_X11_play_42, u_X11_play_45, u_X11_play_46, u_X11_play_47, u_X11_play_50, u_X11_play_51, u_X11_play_54, u_X11_play_55, u_X11_play_56, u_X11_play_57, u_X11_play_60, u_X11_play_63, u_X11_play_64, u_X11_play_67, u_X11_play_68, u_X11_play_69, u_X11_play_70, u_X11_play_71, u_X11_play_74, u_X11_play_75, u_X11_play_76, u_X11_play_77, u_X11_play_80, u_X11_play_81, u_X11_play_84, u_X11_play_85, u_X11_play_86, u_X11_play_87, u_X11_play_90, u_X11_play_91, u_X11_play_92, u_X11_play_95, u_X11_play_96, u_X11_play_99, u_X11_play_100, u_X11_play_101, u_X11_play_104, u_X11_play_107, u_X11_play_110, u_X11_play_111, u_X11_play_114, u_X11_play_115, u_X11_play_118, u_X11_play_119, u_X11_play_120, u_X11_play_123, u_X11_play_124, u_X11_play_127, u_X11_play_128, u_X11_play_129, u_X11_play_131, u_X11_play_134, u_X11_play_135, u_X11_play_138, u_X11_play_139, u_X11_play_142, u_X11_play_143, u_X11_play_145, u_X11_play_146, u_X11_play_149, u_X11_play_150, u_X11_play_151, u_X11_play_154, u_X11_play_156, u_X11_play_159, u_X11_play_160, u_X11_play_163, u_X11_play_164, u_X11_play_165, u_X11_play_166, u_X11_play_169, u_X11_play_170, u_X11_play_173, u_X11_play_174, u_X11_play_175, zcl_i, zcl_r, zcl_l, zcl_0, Option.bind_some, Option.bind_none, Option.toList_some, Option.toList_none, List.cons_append, List.nil_append, zk_wI, zk_wR, zk_wC, zr_wI, zr_wC, zi_wR, zn_wI, zn_wR, zn_wC, if_true, if_false, true_or, or_true, or_false, false_or, true_and, and_true, ↓reduceIte, reduceCtorEq, Nat.reduceEqDiff, Nat.reduceLT, Nat.reduceLeDiff, Nat.reduceAdd, Nat.reduceSub, Nat.reduceMul, Int32.reduceLT, Int32.reduceLE, Int32.reduceAdd, Int32.reduceMul, Int32.reduceSub, Int32.reduceToNatClampNeg, and_self, or_self, and_false, false_and, not_true_eq_false, not_false_eq_true, K37 S4, hk1, K37 S5, j1, nI_1]
            exact a1.trans (e1.trans (up1.trans (a2.trans (f1.trans (up2.trans c5)))))
          · have et : t = N := by omega
            rw [if_neg tN] at n1
            have eN : gmn x fs N 99 = gmn x fs u 99 := by rw [← et]; exact esk
            rw [eN]
            refine ⟨G1, 0, l4, ?_, P1, fun b i hi h1 h2 => by rw [ni b i (by omega) h1 h2]; exact Q b i hi h1 h2, n56⟩
            rw [pl_in SG (by omega) hn hst hs hN8 (by omega) (z1 G P) (z2 G P) y50 y52 c1 hsp c3]
            simp +decide only [u_X11_play_0, u_X11_play_1, u_X11_play_2, u_X11_play_3, u_X11_play_6, u_X11_play_7, u_X11_play_8, u_X11_play_9, u_X11_play_10, u_X11_play_13, u_X11_play_14, u_X11_play_15, u_X11_play_18, u_X11_play_19, u_X11_play_20, u_X11_play_23, u_X11_play_24, u_X11_play_25, u_X11_play_26, u_X11_play_27, u_X11_play_30, u_X11_play_31, u_X11_play_32, u_X11_play_33, u_X11_play_34, u_X11_play_37, u_X11_play_38, u_X11_play_40, u_X11_play_41, u_X11_play_42, u_X11_play_45, u_X11_play_46, u_X11_play_47, u_X11_play_50, u_X11_play_51, u_X11_play_54, u_X11_play_55, u_X11_play_56, u_X11_play_57, u_X11_play_60, u_X11_play_63, u_X11_play_64, u_X11_play_67, u_X11_play_68, u_X11_play_69, u_X11_play_70, u_X11_play_71, u_X11_play_74, u_X11_play_75, u_X11_play_76, u_X11_play_77, u_X11_play_80, u_X11_play_81, u_X11_play_84, u_X11_play_85, u_X11_play_86, u_X11_play_87, u_X11_play_90, u_X11_play_91, u_X11_play_92, u_X11_play_95, u_X11_play_96, u_X11_play_99, u_X11_play_100, u_X11_play_101, u_X11_play_104, u_X11_play_107, u_X11_play_110, u_X11_play_111, u_X11_play_114, u_X11_play_115, u_X11_play_118, u_X11_play_119, u_X11_play_120, u_X11_play_123, u_X11_play_124, u_X11_play_127, u_X11_play_128, u_X11_play_131, u_X11_play_134, u_X11_play_135, u_X11_play_138, u_X11_play_139, u_X11_play_142, u_X11_play_143, u_X11_play_145, u_X11_play_146, u_X11_play_149, u_X11_play_150, u_X11_play_151, u_X11_play_154, u_X11_play_156, u_X11_play_159, u_X11_play_160, u_X11_play_163, u_X11_play_164, u_X11_play_165, u_X11_play_166, u_X11_play_169, u_X11_play_170, u_X11_play_173, u_X11_play_174, u_X11_play_175, zcl_i, zcl_r, zcl_l, zcl_0, Option.bind_some, Option.bind_none, Option.toList_some, Option.toList_none, List.cons_append, List.nil_append, zk_wI, zk_wR, zk_wC, zr_wI, zr_wC, zi_wR, zn_wI, zn_wR, zn_wC, if_true, if_false, true_or, or_true, or_false, false_or, true_and, and_true, ↓reduceIte, reduceCtorEq, Nat.reduceEqDiff, Nat.reduceLT, Nat.reduceLeDiff, Nat.reduceAdd, Nat.reduceSub, Nat.reduceMul, Int32.reduceLT, Int32.reduceLE, Int32.reduceAdd, Int32.reduceMul, Int32.reduceSub, Int32.reduceToNatClampNeg, and_self, or_self, and_false, false_and, not_true_eq_false, not_false_eq_true, K37 SG, n1, K37 S1, R37_33 S1, K56 S1, zix_nI (show k < 6 by omega) (by decide), n56]
      obtain ⟨G', o, l4', c1, c2, c3, c4⟩ := loop N 0 G0 l3 l4 (by omega) (by omega) P0 z50 z51 z52 (Or.inl ⟨rfl, z53, z56⟩) (fun _ _ _ _ _ => rfl)
      exact ⟨G', o, l4', c1, c2, c3, fun _ _ => c4⟩
