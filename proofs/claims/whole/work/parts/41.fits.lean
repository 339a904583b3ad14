/-! fits -/
theorem nI_or (a b : Nat) : nI a ||| nI b = nI (a ||| b) := by
  apply Int32.toBitVec_inj.1
  simp [nI, Int32.ofNat, BitVec.ofNat_or]
  rfl
theorem c_hearT {d : Nat} {H : zH} (S : St H) {N : Nat} (T : IvT H N) {t : Nat} (ht : t < N) {a : Nat} (hk : zk H a = (4, 0)) (ha : a < 64) {s : zNt} : zcall (zP zM) (d + 4) 22 [.inr (.inr (some a)), .inr (.inr (zr H 3 t)), .inl 1] (cN H a s (zi H 37 1) (zi H 37 9)) = some (none, cN H a (mT H t s) (zi H 37 1) (zi H 37 9)) := by
  obtain ⟨t1, t2, t3, t4, t5, t6⟩ := T
  obtain ⟨ta, k, x1, x2, x3, x4, x5, -⟩ := t6 t ht
  have e2 : hP (zi H 37 1) (zi H 37 9) (nI k) (zi H 39 t) (zi H 40 t) (zi H 41 t) (zi H 42 t) (nI t) (!decide ((1 : Int32) = 0)) s = mT H t s := by
    unfold mT
    rw [x4]
    rfl
  rw [x1, c_hear (d := d) hk x5 (show ta ≠ a by omega) (s := s) (sp := zi H 37 1) (bl := zi H 37 9) (hk0 := 1), e2]
theorem c_hearN {d : Nat} {H : zH} {a : Nat} (hk : zk H a = (4, 0)) : zcall (zP zM) (d + 1) 22 [.inr (.inr (some a)), .inr (.inr none), .inl 1] H = some (none, H) := by
  rw [e_X4_hear]
  simp +decide only [u_X4_hear_0, u_X4_hear_1, u_X4_hear_4, u_X4_hear_5, u_X4_hear_8, u_X4_hear_11, u_X4_hear_12, u_X4_hear_13, u_X4_hear_14, u_X4_hear_17, u_X4_hear_20, u_X4_hear_21, u_X4_hear_24, u_X4_hear_27, u_X4_hear_28, u_X4_hear_29, u_X4_hear_30, u_X4_hear_33, u_X4_hear_34, u_X4_hear_37, u_X4_hear_40, u_X4_hear_43, u_X4_hear_44, u_X4_hear_44i, u_X4_hear_45, u_X4_hear_48, u_X4_hear_49, u_X4_hear_50, u_X4_hear_53, u_X4_hear_54, u_X4_hear_55, u_X4_hear_58, u_X4_hear_61, u_X4_hear_62, u_X4_hear_63, u_X4_hear_66, u_X4_hear_69, u_X4_hear_72, u_X4_hear_73, u_X4_hear_74, u_X4_hear_77, u_X4_hear_78, u_X4_hear_78i, u_X4_hear_79, u_X4_hear_82, u_X4_hear_83, u_X4_hear_84, u_X4_hear_87, u_X4_hear_88, u_X4_hear_89, u_X4_hear_92, u_X4_hear_93, u_X4_hear_94, u_X4_hear_97, u_X4_hear_98, u_X4_hear_99, u_X4_hear_102, u_X4_hear_103, u_X4_hear_106, u_X4_hear_107, u_X4_hear_108, u_X4_hear_111, zcl_i, zcl_r, zcl_l, zcl_0, Option.bind_some, Option.bind_none, Option.toList_some, Option.toList_none, List.cons_append, List.nil_append, zk_wI, zk_wR, zk_wC, zr_wI, zr_wC, zi_wR, zn_wI, zn_wR, zn_wC, if_true, if_false, true_or, or_true, or_false, false_or, true_and, and_true, ↓reduceIte, reduceCtorEq, Nat.reduceEqDiff, Nat.reduceLT, Nat.reduceLeDiff, Nat.reduceAdd, Nat.reduceSub, Nat.reduceMul, Int32.reduceLT, Int32.reduceLE, Int32.reduceAdd, Int32.reduceMul, Int32.reduceSub, Int32.reduceToNatClampNeg, and_self, or_self, and_false, false_and, not_true_eq_false, not_false_eq_true, hk]
/-- the night of reading i, by what is known -/
def rS (h : zH) (kn : Int32) (i : Nat) : zNt := if zi h 58 i < 0 then mT h (zi h 57 i).toNatClampNeg (0, kn, 0, 0, 0, 0) else mT h (zi h 58 i).toNatClampNeg (mT h (zi h 57 i).toNatClampNeg (0, kn, 0, 0, 0, 0))
def rok (h : zH) (kn : Int32) (i : Nat) : Bool := decide ((rS h kn i).1 = zi h 59 i)
def ral (h : zH) (kn : Int32) : Nat → Bool
  | 0 => true
  | x + 1 => ral h kn x && rok h kn x
theorem ral_le {h : zH} {kn : Int32} : ∀ {r x : Nat}, x ≤ r → ral h kn r = true → ral h kn x = true := by
  intro r
  induction r with
  | zero => intro x hx hr; rw [show x = 0 by omega]; rfl
  | succ r ih =>
    intro x hx hr
    by_cases e : x = r + 1
    · rw [e]; exact hr
    · rw [ral, Bool.and_eq_true] at hr
      exact ih (by omega) hr.1
theorem c_fitsReadings {d : Nat} {h : zH} (S : St h) {N r : Nat} (T : IvT h N) (hb : zi h 1 2 = zi h 37 9) (hr : r ≤ 8) (r0 : zi h 4 0 = nI r) (R : ∀ i, i < r → ∃ t, t < N ∧ zi h 5 i = nI t ∧ zi h 57 i = nI t ∧ ((zi h 6 i = -9 ∧ zi h 58 i = -9) ∨ ∃ u, u < N ∧ zi h 6 i = nI u ∧ zi h 58 i = nI u) ∧ zi h 7 i = zi h 59 i) {H : zH} (P : Pres h H) (Q : ∀ x y, ¬ x = 11 → zi H x y = zi h x y) {kn : Int32} : ∃ H', zcall (zP zM) (d + 5) 68 [.inr (.inr (some 1)), .inl kn] H = some (some (.inl (if ral h kn r = true then 1 else 0)), H') ∧ Pres h H' ∧ ∀ x y, ¬ x = 11 → zi H' x y = zi h x y := by
  have key : ∀ (mm x : Nat) (H : zH), x + mm = r → ral h kn x = true → Pres h H → (∀ x y, ¬ x = 11 → zi H x y = zi h x y) → ∃ H', zX (d + 4) tb_X10_fitsReadings 2 [some (.inr (.inr (some 1))), some (.inl kn), some (.inl (nI x))] [] H = some (some (.inl (if ral h kn r = true then 1 else 0)), H') ∧ Pres h H' ∧ ∀ x y, ¬ x = 11 → zi H' x y = zi h x y := by
    intro mm
    induction mm with
    | zero =>
      intro x H hx ha P Q
      have e : x = r := by omega
      subst e
      have SH := P.St S
      refine ⟨H, ?_, P, Q⟩
      simp +decide only [u_X10_fitsReadings_0, u_X10_fitsReadings_1, u_X10_fitsReadings_2, u_X10_fitsReadings_3, u_X10_fitsReadings_4, u_X10_fitsReadings_7, u_X10_fitsReadings_10, u_X10_fitsReadings_13, u_X10_fitsReadings_14, u_X10_fitsReadings_16, u_X10_fitsReadings_19, u_X10_fitsReadings_20, u_X10_fitsReadings_23, u_X10_fitsReadings_24, u_X10_fitsReadings_27, u_X10_fitsReadings_30, u_X10_fitsReadings_31, u_X10_fitsReadings_32, u_X10_fitsReadings_35, u_X10_fitsReadings_38, u_X10_fitsReadings_39, u_X10_fitsReadings_42, u_X10_fitsReadings_43, u_X10_fitsReadings_46, u_X10_fitsReadings_47, u_X10_fitsReadings_50, u_X10_fitsReadings_53, u_X10_fitsReadings_54, u_X10_fitsReadings_55, u_X10_fitsReadings_58, u_X10_fitsReadings_59, u_X10_fitsReadings_62, u_X10_fitsReadings_63, u_X10_fitsReadings_66, u_X10_fitsReadings_67, u_X10_fitsReadings_70, u_X10_fitsReadings_71, u_X10_fitsReadings_74, u_X10_fitsReadings_77, u_X10_fitsReadings_78, u_X10_fitsReadings_79, u_X10_fitsReadings_82, u_X10_fitsReadings_83, u_X10_fitsReadings_86, u_X10_fitsReadings_87, u_X10_fitsReadings_90, u_X10_fitsReadings_93, u_X10_fitsReadings_94, u_X10_fitsReadings_97, u_X10_fitsReadings_100, u_X10_fitsReadings_101, u_X10_fitsReadings_102, u_X10_fitsReadings_105, u_X10_fitsReadings_106, u_X10_fitsReadings_107, u_X10_fitsReadings_110, u_X10_fitsReadings_113, u_X10_fitsReadings_114, zcl_i, zcl_r, zcl_l, zcl_0, Option.bind_some, Option.bind_none, Option.toList_some, Option.toList_none, List.cons_append, List.nil_append, zk_wI, zk_wR, zk_wC, zr_wI, zr_wC, zi_wR, zn_wI, zn_wR, zn_wC, if_true, if_false, true_or, or_true, or_false, false_or, true_and, and_true, ↓reduceIte, reduceCtorEq, Nat.reduceEqDiff, Nat.reduceLT, Nat.reduceLeDiff, Nat.reduceAdd, Nat.reduceSub, Nat.reduceMul, Int32.reduceLT, Int32.reduceLE, Int32.reduceAdd, Int32.reduceMul, Int32.reduceSub, Int32.reduceToNatClampNeg, and_self, or_self, and_false, false_and, not_true_eq_false, not_false_eq_true, K1 SH, R1_3 SH, K4 SH, (Q 4 0 (by omega)).trans r0, nI_ltI' (show x < 2 ^ 31 by omega) (show x < 2 ^ 31 by omega), Nat.lt_irrefl, ha]
    | succ mm ih =>
      intro x H hx ha P Q
      have SH := P.St S
      have TH := P.IvT T
      have hlt : x < r := by omega
      have x8 : nI x < (8 : Int32) := by
        rw [show (8 : Int32) = nI 8 from rfl, nI_ltI' (by omega) (by decide)]
        omega
      obtain ⟨t, ht, f1, f2, f3, f4⟩ := R x hlt
      have hbH : zi H 1 2 = zi H 37 9 := by rw [Q 1 2 (by omega), Q 37 9 (by omega)]; exact hb
      have hsH : zi H 2 0 = zi H 37 1 := TH.2.2.2.1
      have m1 : mT H = mT h := mT_P P
      generalize hs1 : mT h t (0, kn, 0, 0, 0, 0) = s1
      have c1 := c_hearT (d := d) SH TH ht (K11 SH) (by omega) (s := (0, kn, 0, 0, 0, 0))
      rw [m1, hs1] at c1
      have S1 : ∀ s, St (cN H 11 s (zi H 37 1) (zi H 37 9)) := fun _ => SH
      have hc : ∀ s, zi (cN H 11 s (zi H 37 1) (zi H 37 9)) 2 1 = nI N := fun s => (zi_cN (by omega)).trans TH.2.1
      have z5 : ∀ s, zi (cN H 11 s (zi H 37 1) (zi H 37 9)) 5 x = nI t := fun s => by rw [zi_cN (by omega), Q 5 x (by omega)]; exact f1
      have z7 : ∀ s, zi (cN H 11 s (zi H 37 1) (zi H 37 9)) 7 x = zi h 59 x := fun s => by rw [zi_cN (by omega), Q 7 x (by omega)]; exact f4
      have run : ∃ s2, rS h kn x = s2 ∧ zX (d + 4) tb_X10_fitsReadings 2 [some (.inr (.inr (some 1))), some (.inl kn), some (.inl (nI x))] [] H = (if s2.1 = zi h 59 x then zX (d + 4) tb_X10_fitsReadings 2 [some (.inr (.inr (some 1))), some (.inl kn), some (.inl (nI (x + 1)))] [] (cN H 11 s2 (zi H 37 1) (zi H 37 9)) else some (some (.inl 0), cN H 11 s2 (zi H 37 1) (zi H 37 9))) := by
        rcases f3 with ⟨f5, f6⟩ | ⟨u, hu, f5, f6⟩
        · refine ⟨s1, by unfold rS; rw [f6, if_pos (by decide), f2, nI_clamp (by have := T.1; omega), hs1], ?_⟩
          have z6 : ∀ s, zi (cN H 11 s (zi H 37 1) (zi H 37 9)) 6 x = -9 := fun s => by rw [zi_cN (by omega), Q 6 x (by omega)]; exact f5
          have n9 : ¬ (0 ≤ (-9 : Int32).toInt ∧ (-9 : Int32).toInt < N) := by
            have : (-9 : Int32).toInt = -9 := by decide
            omega
          rw [u_X10_fitsReadings_2]
          simp +decide only [u_X10_fitsReadings_0, u_X10_fitsReadings_1, u_X10_fitsReadings_3, u_X10_fitsReadings_4, u_X10_fitsReadings_7, u_X10_fitsReadings_10, u_X10_fitsReadings_13, u_X10_fitsReadings_14, u_X10_fitsReadings_16, u_X10_fitsReadings_19, u_X10_fitsReadings_20, u_X10_fitsReadings_23, u_X10_fitsReadings_24, u_X10_fitsReadings_27, u_X10_fitsReadings_30, u_X10_fitsReadings_31, u_X10_fitsReadings_32, u_X10_fitsReadings_35, u_X10_fitsReadings_38, u_X10_fitsReadings_39, u_X10_fitsReadings_42, u_X10_fitsReadings_43, u_X10_fitsReadings_46, u_X10_fitsReadings_47, u_X10_fitsReadings_50, u_X10_fitsReadings_53, u_X10_fitsReadings_54, u_X10_fitsReadings_55, u_X10_fitsReadings_58, u_X10_fitsReadings_59, u_X10_fitsReadings_62, u_X10_fitsReadings_63, u_X10_fitsReadings_66, u_X10_fitsReadings_67, u_X10_fitsReadings_70, u_X10_fitsReadings_71, u_X10_fitsReadings_74, u_X10_fitsReadings_77, u_X10_fitsReadings_78, u_X10_fitsReadings_79, u_X10_fitsReadings_82, u_X10_fitsReadings_83, u_X10_fitsReadings_86, u_X10_fitsReadings_87, u_X10_fitsReadings_90, u_X10_fitsReadings_93, u_X10_fitsReadings_94, u_X10_fitsReadings_97, u_X10_fitsReadings_100, u_X10_fitsReadings_101, u_X10_fitsReadings_102, u_X10_fitsReadings_105, u_X10_fitsReadings_106, u_X10_fitsReadings_107, u_X10_fitsReadings_110, u_X10_fitsReadings_113, u_X10_fitsReadings_114, zcl_i, zcl_r, zcl_l, zcl_0, Option.bind_some, Option.bind_none, Option.toList_some, Option.toList_none, List.cons_append, List.nil_append, zk_wI, zk_wR, zk_wC, zr_wI, zr_wC, zi_wR, zn_wI, zn_wR, zn_wC, if_true, if_false, true_or, or_true, or_false, false_or, true_and, and_true, ↓reduceIte, reduceCtorEq, Nat.reduceEqDiff, Nat.reduceLT, Nat.reduceLeDiff, Nat.reduceAdd, Nat.reduceSub, Nat.reduceMul, Int32.reduceLT, Int32.reduceLE, Int32.reduceAdd, Int32.reduceMul, Int32.reduceSub, Int32.reduceToNatClampNeg, and_self, or_self, and_false, false_and, not_true_eq_false, not_false_eq_true, zk_cN, zr_cN, K1 SH, R1_3 SH, R1_9 SH, R1_0 SH, K2 SH, K4 SH, K11 SH, R4_1 SH, R4_2 SH, R4_3 SH, K5 SH, K6 SH, K7 SH, (Q 4 0 (by omega)).trans r0, nI_ltI' (show x < 2 ^ 31 by omega) (show r < 2 ^ 31 by omega), hlt, x8, c_begin (K11 SH), hsH, hbH, zix_nI (show x < 8 by omega) (by decide), z5, c_taleAt (S1 _) (hc _) T.1 ht, c1, z6, c_taleNo (S1 _) (hc _) T.1 n9, c_hearN (H := cN H 11 s1 (zi H 37 1) (zi H 37 9)) (K11 SH), zi_cN0, z7, nI_1, nI_add]
        · have c2 := c_hearT (d := d) SH TH hu (K11 SH) (by omega) (s := s1)
          rw [m1] at c2
          generalize hs2 : mT h u s1 = s2 at c2
          have u0 : ¬ nI u < 0 := nI_pos (by have := T.1; omega)
          refine ⟨s2, by unfold rS; rw [f6, if_neg u0, f2, nI_clamp (by have := T.1; omega), nI_clamp (by have := T.1; omega), hs1, hs2], ?_⟩
          have z6 : ∀ s, zi (cN H 11 s (zi H 37 1) (zi H 37 9)) 6 x = nI u := fun s => by rw [zi_cN (by omega), Q 6 x (by omega)]; exact f5
          rw [u_X10_fitsReadings_2]
          simp +decide only [u_X10_fitsReadings_0, u_X10_fitsReadings_1, u_X10_fitsReadings_3, u_X10_fitsReadings_4, u_X10_fitsReadings_7, u_X10_fitsReadings_10, u_X10_fitsReadings_13, u_X10_fitsReadings_14, u_X10_fitsReadings_16, u_X10_fitsReadings_19, u_X10_fitsReadings_20, u_X10_fitsReadings_23, u_X10_fitsReadings_24, u_X10_fitsReadings_27, u_X10_fitsReadings_30, u_X10_fitsReadings_31, u_X10_fitsReadings_32, u_X10_fitsReadings_35, u_X10_fitsReadings_38, u_X10_fitsReadings_39, u_X10_fitsReadings_42, u_X10_fitsReadings_43, u_X10_fitsReadings_46, u_X10_fitsReadings_47, u_X10_fitsReadings_50, u_X10_fitsReadings_53, u_X10_fitsReadings_54, u_X10_fitsReadings_55, u_X10_fitsReadings_58, u_X10_fitsReadings_59, u_X10_fitsReadings_62, u_X10_fitsReadings_63, u_X10_fitsReadings_66, u_X10_fitsReadings_67, u_X10_fitsReadings_70, u_X10_fitsReadings_71, u_X10_fitsReadings_74, u_X10_fitsReadings_77, u_X10_fitsReadings_78, u_X10_fitsReadings_79, u_X10_fitsReadings_82, u_X10_fitsReadings_83, u_X10_fitsReadings_86, u_X10_fitsReadings_87, u_X10_fitsReadings_90, u_X10_fitsReadings_93, u_X10_fitsReadings_94, u_X10_fitsReadings_97, u_X10_fitsReadings_100, u_X10_fitsReadings_101, u_X10_fitsReadings_102, u_X10_fitsReadings_105, u_X10_fitsReadings_106, u_X10_fitsReadings_107, u_X10_fitsReadings_110, u_X10_fitsReadings_113, u_X10_fitsReadings_114, zcl_i, zcl_r, zcl_l, zcl_0, Option.bind_some, Option.bind_none, Option.toList_some, Option.toList_none, List.cons_append, List.nil_append, zk_wI, zk_wR, zk_wC, zr_wI, zr_wC, zi_wR, zn_wI, zn_wR, zn_wC, if_true, if_false, true_or, or_true, or_false, false_or, true_and, and_true, ↓reduceIte, reduceCtorEq, Nat.reduceEqDiff, Nat.reduceLT, Nat.reduceLeDiff, Nat.reduceAdd, Nat.reduceSub, Nat.reduceMul, Int32.reduceLT, Int32.reduceLE, Int32.reduceAdd, Int32.reduceMul, Int32.reduceSub, Int32.reduceToNatClampNeg, and_self, or_self, and_false, false_and, not_true_eq_false, not_false_eq_true, zk_cN, zr_cN, K1 SH, R1_3 SH, R1_9 SH, R1_0 SH, K2 SH, K4 SH, K11 SH, R4_1 SH, R4_2 SH, R4_3 SH, K5 SH, K6 SH, K7 SH, (Q 4 0 (by omega)).trans r0, nI_ltI' (show x < 2 ^ 31 by omega) (show r < 2 ^ 31 by omega), hlt, x8, c_begin (K11 SH), hsH, hbH, zix_nI (show x < 8 by omega) (by decide), z5, c_taleAt (S1 _) (hc _) T.1 ht, c1, z6, c_taleAt (S1 _) (hc _) T.1 hu, c2, zi_cN0, z7, nI_1, nI_add]
      obtain ⟨s2, e2, e3⟩ := run
      have P2 : Pres h (cN H 11 s2 (zi H 37 1) (zi H 37 9)) := P.cN (by omega)
      have Q2 : ∀ a y, ¬ a = 11 → zi (cN H 11 s2 (zi H 37 1) (zi H 37 9)) a y = zi h a y := fun a y z => (zi_cN z).trans (Q a y z)
      by_cases g : s2.1 = zi h 59 x
      · have g1 : ral h kn (x + 1) = true := by rw [ral, ha, rok, e2]; simp [g]
        obtain ⟨H', c, r'⟩ := ih (x + 1) _ (by omega) g1 P2 Q2
        exact ⟨H', by rw [e3, if_pos g]; exact c, r'⟩
      · have g1 : ¬ ral h kn r = true := fun z => by
          have := ral_le (show x + 1 ≤ r by omega) z
          rw [ral, ha, rok, e2] at this
          simp [g] at this
        exact ⟨_, by rw [e3, if_neg g, if_neg g1], P2, Q2⟩
  obtain ⟨H', c, q⟩ := key r 0 H (by omega) rfl P Q
  refine ⟨H', ?_, q⟩
  rw [e_X10_fitsReadings]
  simp +decide only [u_X10_fitsReadings_0, u_X10_fitsReadings_1, u_X10_fitsReadings_3, u_X10_fitsReadings_4, u_X10_fitsReadings_7, u_X10_fitsReadings_10, u_X10_fitsReadings_13, u_X10_fitsReadings_14, u_X10_fitsReadings_16, u_X10_fitsReadings_19, u_X10_fitsReadings_20, u_X10_fitsReadings_23, u_X10_fitsReadings_24, u_X10_fitsReadings_27, u_X10_fitsReadings_30, u_X10_fitsReadings_31, u_X10_fitsReadings_32, u_X10_fitsReadings_35, u_X10_fitsReadings_38, u_X10_fitsReadings_39, u_X10_fitsReadings_42, u_X10_fitsReadings_43, u_X10_fitsReadings_46, u_X10_fitsReadings_47, u_X10_fitsReadings_50, u_X10_fitsReadings_53, u_X10_fitsReadings_54, u_X10_fitsReadings_55, u_X10_fitsReadings_58, u_X10_fitsReadings_59, u_X10_fitsReadings_62, u_X10_fitsReadings_63, u_X10_fitsReadings_66, u_X10_fitsReadings_67, u_X10_fitsReadings_70, u_X10_fitsReadings_71, u_X10_fitsReadings_74, u_X10_fitsReadings_77, u_X10_fitsReadings_78, u_X10_fitsReadings_79, u_X10_fitsReadings_82, u_X10_fitsReadings_83, u_X10_fitsReadings_86, u_X10_fitsReadings_87, u_X10_fitsReadings_90, u_X10_fitsReadings_93, u_X10_fitsReadings_94, u_X10_fitsReadings_97, u_X10_fitsReadings_100, u_X10_fitsReadings_101, u_X10_fitsReadings_102, u_X10_fitsReadings_105, u_X10_fitsReadings_106, u_X10_fitsReadings_107, u_X10_fitsReadings_110, u_X10_fitsReadings_113, u_X10_fitsReadings_114, zcl_i, zcl_r, zcl_l, zcl_0, Option.bind_some, Option.bind_none, Option.toList_some, Option.toList_none, List.cons_append, List.nil_append, zk_wI, zk_wR, zk_wC, zr_wI, zr_wC, zi_wR, zn_wI, zn_wR, zn_wC, if_true, if_false, true_or, or_true, or_false, false_or, true_and, and_true, ↓reduceIte, reduceCtorEq, Nat.reduceEqDiff, Nat.reduceLT, Nat.reduceLeDiff, Nat.reduceAdd, Nat.reduceSub, Nat.reduceMul, Int32.reduceLT, Int32.reduceLE, Int32.reduceAdd, Int32.reduceMul, Int32.reduceSub, Int32.reduceToNatClampNeg, and_self, or_self, and_false, false_and, not_true_eq_false, not_false_eq_true]
  exact c
