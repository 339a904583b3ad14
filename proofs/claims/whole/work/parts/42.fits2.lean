/-! fits, the reference's side and both -/
theorem c_areSo {d : Nat} {h : zH} (S : St h) {N r : Nat} (hN : N ≤ 8) (hr : r ≤ 8) (r0 : zi h 37 34 = nI r) (R : ∀ i, i < r → ∃ t, t < N ∧ zi h 5 i = nI t ∧ zi h 57 i = nI t ∧ ((zi h 6 i = -9 ∧ zi h 58 i = -9) ∨ ∃ u, u < N ∧ zi h 6 i = nI u ∧ zi h 58 i = nI u) ∧ zi h 7 i = zi h 59 i) {G : zH} (P : Pres h G) {kn : Int32} : ∃ G', zcall (zP zM) (d + 5) 126 [.inr (.inr (some 37)), .inl kn] G = some (some (.inl (if ral h kn r = true then 1 else 0)), G') ∧ Pres h G' := by
  have stop : ∀ (y : Nat) (G : zH), y ≤ 8 → Pres h G → zX (d + 4) tb_X11_areSo 4 [some (.inr (.inr (some 37))), some (.inl kn), some (.inl 0), some (.inl (nI y))] [] G = some (some (.inl 0), G) := fun y G hy P => by
    have SG := P.St S
    have q0 : zi G 37 34 = nI r := (P.2.2.2.2 37 34 (zscr_no (by omega))).trans r0
    by_cases g : y < r
    · simp +decide only [u_X11_areSo_0, u_X11_areSo_1, u_X11_areSo_2, u_X11_areSo_3, u_X11_areSo_4, u_X11_areSo_5, u_X11_areSo_6, u_X11_areSo_9, u_X11_areSo_12, u_X11_areSo_13, u_X11_areSo_16, u_X11_areSo_17, u_X11_areSo_18, u_X11_areSo_21, u_X11_areSo_22, u_X11_areSo_23, u_X11_areSo_26, u_X11_areSo_27, u_X11_areSo_28, u_X11_areSo_31, u_X11_areSo_32, u_X11_areSo_35, u_X11_areSo_36, u_X11_areSo_37, u_X11_areSo_40, u_X11_areSo_41, u_X11_areSo_42, u_X11_areSo_45, u_X11_areSo_46, u_X11_areSo_47, u_X11_areSo_50, u_X11_areSo_51, u_X11_areSo_54, u_X11_areSo_55, u_X11_areSo_58, u_X11_areSo_59, u_X11_areSo_60, u_X11_areSo_63, u_X11_areSo_64, u_X11_areSo_67, u_X11_areSo_68, u_X11_areSo_69, u_X11_areSo_72, u_X11_areSo_75, u_X11_areSo_76, zcl_i, zcl_r, zcl_l, zcl_0, Option.bind_some, Option.bind_none, Option.toList_some, Option.toList_none, List.cons_append, List.nil_append, zk_wI, zk_wR, zk_wC, zr_wI, zr_wC, zi_wR, zn_wI, zn_wR, zn_wC, if_true, if_false, true_or, or_true, or_false, false_or, true_and, and_true, ↓reduceIte, reduceCtorEq, Nat.reduceEqDiff, Nat.reduceLT, Nat.reduceLeDiff, Nat.reduceAdd, Nat.reduceSub, Nat.reduceMul, Int32.reduceLT, Int32.reduceLE, Int32.reduceAdd, Int32.reduceMul, Int32.reduceSub, Int32.reduceToNatClampNeg, and_self, or_self, and_false, false_and, not_true_eq_false, not_false_eq_true, K37 SG, q0, nI_ltI' (show y < 2 ^ 31 by omega) (show r < 2 ^ 31 by omega), g]
    · simp +decide only [u_X11_areSo_0, u_X11_areSo_1, u_X11_areSo_2, u_X11_areSo_3, u_X11_areSo_4, u_X11_areSo_5, u_X11_areSo_6, u_X11_areSo_9, u_X11_areSo_12, u_X11_areSo_13, u_X11_areSo_16, u_X11_areSo_17, u_X11_areSo_18, u_X11_areSo_21, u_X11_areSo_22, u_X11_areSo_23, u_X11_areSo_26, u_X11_areSo_27, u_X11_areSo_28, u_X11_areSo_31, u_X11_areSo_32, u_X11_areSo_35, u_X11_areSo_36, u_X11_areSo_37, u_X11_areSo_40, u_X11_areSo_41, u_X11_areSo_42, u_X11_areSo_45, u_X11_areSo_46, u_X11_areSo_47, u_X11_areSo_50, u_X11_areSo_51, u_X11_areSo_54, u_X11_areSo_55, u_X11_areSo_58, u_X11_areSo_59, u_X11_areSo_60, u_X11_areSo_63, u_X11_areSo_64, u_X11_areSo_67, u_X11_areSo_68, u_X11_areSo_69, u_X11_areSo_72, u_X11_areSo_75, u_X11_areSo_76, zcl_i, zcl_r, zcl_l, zcl_0, Option.bind_some, Option.bind_none, Option.toList_some, Option.toList_none, List.cons_append, List.nil_append, zk_wI, zk_wR, zk_wC, zr_wI, zr_wC, zi_wR, zn_wI, zn_wR, zn_wC, if_true, if_false, true_or, or_true, or_false, false_or, true_and, and_true, ↓reduceIte, reduceCtorEq, Nat.reduceEqDiff, Nat.reduceLT, Nat.reduceLeDiff, Nat.reduceAdd, Nat.reduceSub, Nat.reduceMul, Int32.reduceLT, Int32.reduceLE, Int32.reduceAdd, Int32.reduceMul, Int32.reduceSub, Int32.reduceToNatClampNeg, and_self, or_self, and_false, false_and, not_true_eq_false, not_false_eq_true, K37 SG, q0, nI_ltI' (show y < 2 ^ 31 by omega) (show r < 2 ^ 31 by omega), g]
  have key : ∀ (mm x : Nat) (G : zH), x + mm = r → ral h kn x = true → Pres h G → ∃ G', zX (d + 4) tb_X11_areSo 4 [some (.inr (.inr (some 37))), some (.inl kn), some (.inl 1), some (.inl (nI x))] [] G = some (some (.inl (if ral h kn r = true then 1 else 0)), G') ∧ Pres h G' := by
    intro mm
    induction mm with
    | zero =>
      intro x G hx ha P
      have e : x = r := by omega
      subst e
      have SG := P.St S
      refine ⟨G, ?_, P⟩
      simp +decide only [u_X11_areSo_0, u_X11_areSo_1, u_X11_areSo_2, u_X11_areSo_3, u_X11_areSo_4, u_X11_areSo_5, u_X11_areSo_6, u_X11_areSo_9, u_X11_areSo_12, u_X11_areSo_13, u_X11_areSo_16, u_X11_areSo_17, u_X11_areSo_18, u_X11_areSo_21, u_X11_areSo_22, u_X11_areSo_23, u_X11_areSo_26, u_X11_areSo_27, u_X11_areSo_28, u_X11_areSo_31, u_X11_areSo_32, u_X11_areSo_35, u_X11_areSo_36, u_X11_areSo_37, u_X11_areSo_40, u_X11_areSo_41, u_X11_areSo_42, u_X11_areSo_45, u_X11_areSo_46, u_X11_areSo_47, u_X11_areSo_50, u_X11_areSo_51, u_X11_areSo_54, u_X11_areSo_55, u_X11_areSo_58, u_X11_areSo_59, u_X11_areSo_60, u_X11_areSo_63, u_X11_areSo_64, u_X11_areSo_67, u_X11_areSo_68, u_X11_areSo_69, u_X11_areSo_72, u_X11_areSo_75, u_X11_areSo_76, zcl_i, zcl_r, zcl_l, zcl_0, Option.bind_some, Option.bind_none, Option.toList_some, Option.toList_none, List.cons_append, List.nil_append, zk_wI, zk_wR, zk_wC, zr_wI, zr_wC, zi_wR, zn_wI, zn_wR, zn_wC, if_true, if_false, true_or, or_true, or_false, false_or, true_and, and_true, ↓reduceIte, reduceCtorEq, Nat.reduceEqDiff, Nat.reduceLT, Nat.reduceLeDiff, Nat.reduceAdd, Nat.reduceSub, Nat.reduceMul, Int32.reduceLT, Int32.reduceLE, Int32.reduceAdd, Int32.reduceMul, Int32.reduceSub, Int32.reduceToNatClampNeg, and_self, or_self, and_false, false_and, not_true_eq_false, not_false_eq_true, K37 SG, (P.2.2.2.2 37 34 (zscr_no (by omega))).trans r0, nI_ltI' (show x < 2 ^ 31 by omega) (show x < 2 ^ 31 by omega), Nat.lt_irrefl, ha]
    | succ mm ih =>
      intro x G hx ha P
      have SG := P.St S
      have hlt : x < r := by omega
      have q := P.2.2.2.2
      obtain ⟨t, ht, f1, f2, f3, f4⟩ := R x hlt
      have m1 : mT G = mT h := mT_P P
      generalize hs1 : mT h t (0, kn, 0, 0, 0, 0) = s1
      have c1 : ∀ d, zcall (zP zM) (d + 4) 109 [.inr (.inr (some 37)), .inl (nI t)] (mN G (0, kn, 0, 0, 0, 0)) = some (none, mN G s1) := fun d => by
        rw [← hs1, ← m1]
        exact c_goHeard SG (by omega)
      have z57 : ∀ s, zi (mN G s) 57 x = nI t := fun s => by rw [zi_mN (by omega), q 57 x (zscr_no (by omega))]; exact f2
      have z59 : ∀ s, zi (mN G s) 59 x = zi h 59 x := fun s => by rw [zi_mN (by omega), q 59 x (zscr_no (by omega))]
      have run : ∃ s2, rS h kn x = s2 ∧ zX (d + 4) tb_X11_areSo 4 [some (.inr (.inr (some 37))), some (.inl kn), some (.inl 1), some (.inl (nI x))] [] G = (if s2.1 = zi h 59 x then zX (d + 4) tb_X11_areSo 4 [some (.inr (.inr (some 37))), some (.inl kn), some (.inl 1), some (.inl (nI (x + 1)))] [] (mN G s2) else zX (d + 4) tb_X11_areSo 4 [some (.inr (.inr (some 37))), some (.inl kn), some (.inl 0), some (.inl (nI (x + 1)))] [] (mN G s2)) := by
        rcases f3 with ⟨f5, f6⟩ | ⟨u, hu, f5, f6⟩
        · refine ⟨s1, by unfold rS; rw [f6, if_pos (by decide), f2, nI_clamp (by omega), hs1], ?_⟩
          have z58 : ∀ s, zi (mN G s) 58 x = -9 := fun s => by rw [zi_mN (by omega), q 58 x (zscr_no (by omega))]; exact f6
          rw [u_X11_areSo_4]
          simp +decide only [u_X11_areSo_0, u_X11_areSo_1, u_X11_areSo_2, u_X11_areSo_3, u_X11_areSo_5, u_X11_areSo_6, u_X11_areSo_9, u_X11_areSo_12, u_X11_areSo_13, u_X11_areSo_16, u_X11_areSo_17, u_X11_areSo_18, u_X11_areSo_21, u_X11_areSo_22, u_X11_areSo_23, u_X11_areSo_26, u_X11_areSo_27, u_X11_areSo_28, u_X11_areSo_31, u_X11_areSo_32, u_X11_areSo_35, u_X11_areSo_36, u_X11_areSo_37, u_X11_areSo_40, u_X11_areSo_41, u_X11_areSo_42, u_X11_areSo_45, u_X11_areSo_46, u_X11_areSo_47, u_X11_areSo_50, u_X11_areSo_51, u_X11_areSo_54, u_X11_areSo_55, u_X11_areSo_58, u_X11_areSo_59, u_X11_areSo_60, u_X11_areSo_63, u_X11_areSo_64, u_X11_areSo_67, u_X11_areSo_68, u_X11_areSo_69, u_X11_areSo_72, u_X11_areSo_75, u_X11_areSo_76, zcl_i, zcl_r, zcl_l, zcl_0, Option.bind_some, Option.bind_none, Option.toList_some, Option.toList_none, List.cons_append, List.nil_append, zk_wI, zk_wR, zk_wC, zr_wI, zr_wC, zi_wR, zn_wI, zn_wR, zn_wC, if_true, if_false, true_or, or_true, or_false, false_or, true_and, and_true, ↓reduceIte, reduceCtorEq, Nat.reduceEqDiff, Nat.reduceLT, Nat.reduceLeDiff, Nat.reduceAdd, Nat.reduceSub, Nat.reduceMul, Int32.reduceLT, Int32.reduceLE, Int32.reduceAdd, Int32.reduceMul, Int32.reduceSub, Int32.reduceToNatClampNeg, and_self, or_self, and_false, false_and, not_true_eq_false, not_false_eq_true, zk_mN, zr_mN, K37 SG, R37_35 SG, R37_36 SG, R37_37 SG, K57 SG, K58 SG, K59 SG, (q 37 34 (zscr_no (by omega))).trans r0, nI_ltI' (show x < 2 ^ 31 by omega) (show r < 2 ^ 31 by omega), hlt, c_beginNight SG, zix_nI (show x < 8 by omega) (by decide), z57, c1, z58, zi_mN18, z59, nI_1, nI_add]
        · generalize hs2 : mT h u s1 = s2
          have c2 : ∀ d, zcall (zP zM) (d + 4) 109 [.inr (.inr (some 37)), .inl (nI u)] (mN G s1) = some (none, mN G s2) := fun d => by
            rw [← hs2, ← m1]
            exact c_goHeard SG (by omega)
          have u0 : ¬ nI u < 0 := nI_pos (by omega)
          refine ⟨s2, by unfold rS; rw [f6, if_neg u0, f2, nI_clamp (by omega), nI_clamp (by omega), hs1, hs2], ?_⟩
          have z58 : ∀ s, zi (mN G s) 58 x = nI u := fun s => by rw [zi_mN (by omega), q 58 x (zscr_no (by omega))]; exact f6
          rw [u_X11_areSo_4]
          simp +decide only [u_X11_areSo_0, u_X11_areSo_1, u_X11_areSo_2, u_X11_areSo_3, u_X11_areSo_5, u_X11_areSo_6, u_X11_areSo_9, u_X11_areSo_12, u_X11_areSo_13, u_X11_areSo_16, u_X11_areSo_17, u_X11_areSo_18, u_X11_areSo_21, u_X11_areSo_22, u_X11_areSo_23, u_X11_areSo_26, u_X11_areSo_27, u_X11_areSo_28, u_X11_areSo_31, u_X11_areSo_32, u_X11_areSo_35, u_X11_areSo_36, u_X11_areSo_37, u_X11_areSo_40, u_X11_areSo_41, u_X11_areSo_42, u_X11_areSo_45, u_X11_areSo_46, u_X11_areSo_47, u_X11_areSo_50, u_X11_areSo_51, u_X11_areSo_54, u_X11_areSo_55, u_X11_areSo_58, u_X11_areSo_59, u_X11_areSo_60, u_X11_areSo_63, u_X11_areSo_64, u_X11_areSo_67, u_X11_areSo_68, u_X11_areSo_69, u_X11_areSo_72, u_X11_areSo_75, u_X11_areSo_76, zcl_i, zcl_r, zcl_l, zcl_0, Option.bind_some, Option.bind_none, Option.toList_some, Option.toList_none, List.cons_append, List.nil_append, zk_wI, zk_wR, zk_wC, zr_wI, zr_wC, zi_wR, zn_wI, zn_wR, zn_wC, if_true, if_false, true_or, or_true, or_false, false_or, true_and, and_true, ↓reduceIte, reduceCtorEq, Nat.reduceEqDiff, Nat.reduceLT, Nat.reduceLeDiff, Nat.reduceAdd, Nat.reduceSub, Nat.reduceMul, Int32.reduceLT, Int32.reduceLE, Int32.reduceAdd, Int32.reduceMul, Int32.reduceSub, Int32.reduceToNatClampNeg, and_self, or_self, and_false, false_and, not_true_eq_false, not_false_eq_true, zk_mN, zr_mN, K37 SG, R37_35 SG, R37_36 SG, R37_37 SG, K57 SG, K58 SG, K59 SG, (q 37 34 (zscr_no (by omega))).trans r0, nI_ltI' (show x < 2 ^ 31 by omega) (show r < 2 ^ 31 by omega), hlt, c_beginNight SG, zix_nI (show x < 8 by omega) (by decide), z57, c1, z58, u0, c2, zi_mN18, z59, nI_1, nI_add]
      obtain ⟨s2, e2, e3⟩ := run
      have P2 : Pres h (mN G s2) := P.mN
      by_cases g : s2.1 = zi h 59 x
      · have g1 : ral h kn (x + 1) = true := by rw [ral, ha, rok, e2]; simp [g]
        obtain ⟨H', c, r'⟩ := ih (x + 1) _ (by omega) g1 P2
        exact ⟨H', by rw [e3, if_pos g]; exact c, r'⟩
      · have g1 : ¬ ral h kn r = true := fun z => by
          have := ral_le (show x + 1 ≤ r by omega) z
          rw [ral, ha, rok, e2] at this
          simp [g] at this
        exact ⟨_, by rw [e3, if_neg g, if_neg g1]; exact stop (x + 1) _ (by omega) P2, P2⟩
  obtain ⟨G', c, q⟩ := key r 0 G (by omega) rfl P
  refine ⟨G', ?_, q⟩
  rw [e_X11_areSo]
  simp +decide only [u_X11_areSo_0, u_X11_areSo_1, u_X11_areSo_2, u_X11_areSo_3, u_X11_areSo_5, u_X11_areSo_6, u_X11_areSo_9, u_X11_areSo_12, u_X11_areSo_13, u_X11_areSo_16, u_X11_areSo_17, u_X11_areSo_18, u_X11_areSo_21, u_X11_areSo_22, u_X11_areSo_23, u_X11_areSo_26, u_X11_areSo_27, u_X11_areSo_28, u_X11_areSo_31, u_X11_areSo_32, u_X11_areSo_35, u_X11_areSo_36, u_X11_areSo_37, u_X11_areSo_40, u_X11_areSo_41, u_X11_areSo_42, u_X11_areSo_45, u_X11_areSo_46, u_X11_areSo_47, u_X11_areSo_50, u_X11_areSo_51, u_X11_areSo_54, u_X11_areSo_55, u_X11_areSo_58, u_X11_areSo_59, u_X11_areSo_60, u_X11_areSo_63, u_X11_areSo_64, u_X11_areSo_67, u_X11_areSo_68, u_X11_areSo_69, u_X11_areSo_72, u_X11_areSo_75, u_X11_areSo_76, zcl_i, zcl_r, zcl_l, zcl_0, Option.bind_some, Option.bind_none, Option.toList_some, Option.toList_none, List.cons_append, List.nil_append, zk_wI, zk_wR, zk_wC, zr_wI, zr_wC, zi_wR, zn_wI, zn_wR, zn_wC, if_true, if_false, true_or, or_true, or_false, false_or, true_and, and_true, ↓reduceIte, reduceCtorEq, Nat.reduceEqDiff, Nat.reduceLT, Nat.reduceLeDiff, Nat.reduceAdd, Nat.reduceSub, Nat.reduceMul, Int32.reduceLT, Int32.reduceLE, Int32.reduceAdd, Int32.reduceMul, Int32.reduceSub, Int32.reduceToNatClampNeg, and_self, or_self, and_false, false_and, not_true_eq_false, not_false_eq_true]
  exact c
/-- how many, the least, what is in some -/
def fF (A : Nat → Bool) : Nat → Nat × Option Nat × Nat
  | 0 => (0, none, 0)
  | x + 1 => if A x = true then ((fF A x).1 + 1, (match (fF A x).2.1 with | none => some x | some b => some b), (fF A x).2.2 ||| x) else fF A x
theorem fF_inv {A : Nat → Bool} : ∀ {x : Nat}, x ≤ 256 → (fF A x).1 ≤ x ∧ ((fF A x).1 = 0 ↔ (fF A x).2.1 = none) ∧ (∀ b, (fF A x).2.1 = some b → b < x) ∧ (fF A x).2.2 < 256 := by
  intro x
  induction x with
  | zero => intro _; exact ⟨Nat.le_refl _, by simp [fF], fun b hb => (by cases hb), by simp [fF]⟩
  | succ x ih =>
    intro hx
    obtain ⟨h1, h2, h3, h4⟩ := ih (by omega)
    rw [fF]
    split
    · refine ⟨by simp only; omega, ?_, ?_, ?_⟩
      · cases hq : (fF A x).2.1 <;> simp
      · intro b hb
        cases hq : (fF A x).2.1 with
        | none => simp only [hq] at hb; cases hb; omega
        | some c => simp only [hq] at hb; cases hb; have := h3 _ hq; omega
      · exact Nat.or_lt_two_pow (n := 8) h4 (by omega)
    · exact ⟨by omega, h2, fun b hb => by have := h3 b hb; omega, h4⟩
theorem fits255 : ∀ b, b < 256 → (255 : Int32) - nI b = 255 &&& (nI b ^^^ (-1)) := by decide +kernel
