/-! never: the reference's search, and both -/
theorem c_isUsed {d : Nat} {G : zH} (S : St G) {k t : Nat} {r : Nat → Nat} (hk : k ≤ 5) (ht : t < 8) (hr : ∀ x, x < k → zi G 48 x = nI (r x) ∧ r x < 8) : zcall (zP zM) (d + 1) 114 [.inr (.inr (some 37)), .inl (nI k), .inl (nI t)] G = some (some (.inl (if usd r k t = true then 1 else 0)), G) := by
  have key : ∀ (mm x : Nat), x + mm = k → zX d tb_X11_isUsed 5 [some (.inr (.inr (some 37))), some (.inl (nI k)), some (.inl (nI t)), some (.inl (if usd r x t = true then 1 else 0)), some (.inl (nI x))] [] G = some (some (.inl (if usd r k t = true then 1 else 0)), G) := by
    intro mm
    induction mm with
    | zero =>
      intro x hx
      have e : x = k := by omega
      subst e
      by_cases u : usd r x t = true
      · simp +decide only [u_X11_isUsed_0, u_X11_isUsed_1, u_X11_isUsed_2, u_X11_isUsed_3, u_X11_isUsed_5, u_X11_isUsed_7, u_X11_isUsed_8, u_X11_isUsed_11, u_X11_isUsed_12, u_X11_isUsed_15, u_X11_isUsed_16, u_X11_isUsed_19, u_X11_isUsed_21, u_X11_isUsed_22, u_X11_isUsed_23, u_X11_isUsed_26, u_X11_isUsed_27, u_X11_isUsed_30, u_X11_isUsed_31, u_X11_isUsed_32, u_X11_isUsed_35, u_X11_isUsed_38, u_X11_isUsed_39, zcl_i, zcl_r, zcl_l, zcl_0, Option.bind_some, Option.bind_none, Option.toList_some, Option.toList_none, List.cons_append, List.nil_append, zk_wI, zk_wR, zk_wC, zr_wI, zr_wC, zi_wR, zn_wI, zn_wR, zn_wC, if_true, if_false, true_or, or_true, or_false, false_or, true_and, and_true, ↓reduceIte, reduceCtorEq, Nat.reduceEqDiff, Nat.reduceLT, Nat.reduceLeDiff, Nat.reduceAdd, Nat.reduceSub, Nat.reduceMul, Int32.reduceLT, Int32.reduceLE, Int32.reduceAdd, Int32.reduceMul, Int32.reduceSub, Int32.reduceToNatClampNeg, and_self, or_self, and_false, false_and, not_true_eq_false, not_false_eq_true, nI_ltI' (show x < 2 ^ 31 by omega) (show x < 2 ^ 31 by omega), Nat.lt_irrefl, u]
      · simp +decide only [u_X11_isUsed_0, u_X11_isUsed_1, u_X11_isUsed_2, u_X11_isUsed_3, u_X11_isUsed_5, u_X11_isUsed_7, u_X11_isUsed_8, u_X11_isUsed_11, u_X11_isUsed_12, u_X11_isUsed_15, u_X11_isUsed_16, u_X11_isUsed_19, u_X11_isUsed_21, u_X11_isUsed_22, u_X11_isUsed_23, u_X11_isUsed_26, u_X11_isUsed_27, u_X11_isUsed_30, u_X11_isUsed_31, u_X11_isUsed_32, u_X11_isUsed_35, u_X11_isUsed_38, u_X11_isUsed_39, zcl_i, zcl_r, zcl_l, zcl_0, Option.bind_some, Option.bind_none, Option.toList_some, Option.toList_none, List.cons_append, List.nil_append, zk_wI, zk_wR, zk_wC, zr_wI, zr_wC, zi_wR, zn_wI, zn_wR, zn_wC, if_true, if_false, true_or, or_true, or_false, false_or, true_and, and_true, ↓reduceIte, reduceCtorEq, Nat.reduceEqDiff, Nat.reduceLT, Nat.reduceLeDiff, Nat.reduceAdd, Nat.reduceSub, Nat.reduceMul, Int32.reduceLT, Int32.reduceLE, Int32.reduceAdd, Int32.reduceMul, Int32.reduceSub, Int32.reduceToNatClampNeg, and_self, or_self, and_false, false_and, not_true_eq_false, not_false_eq_true, nI_ltI' (show x < 2 ^ 31 by omega) (show x < 2 ^ 31 by omega), Nat.lt_irrefl, u]
    | succ mm ih =>
      intro x hx
      have hlt : x < k := by omega
      obtain ⟨h1, h2⟩ := hr x hlt
      have e := ih (x + 1) (by omega)
      refine Eq.trans ?_ e
      have e1 : (nI (r x) = nI t) = (r x = t) := nI_eqI' (by omega) (by omega)
      rw [u_X11_isUsed_5, usd]
      by_cases u : usd r x t = true
      · simp +decide only [u_X11_isUsed_0, u_X11_isUsed_1, u_X11_isUsed_2, u_X11_isUsed_3, u_X11_isUsed_7, u_X11_isUsed_8, u_X11_isUsed_11, u_X11_isUsed_12, u_X11_isUsed_15, u_X11_isUsed_16, u_X11_isUsed_19, u_X11_isUsed_21, u_X11_isUsed_22, u_X11_isUsed_23, u_X11_isUsed_26, u_X11_isUsed_27, u_X11_isUsed_30, u_X11_isUsed_31, u_X11_isUsed_32, u_X11_isUsed_35, u_X11_isUsed_38, u_X11_isUsed_39, zcl_i, zcl_r, zcl_l, zcl_0, Option.bind_some, Option.bind_none, Option.toList_some, Option.toList_none, List.cons_append, List.nil_append, zk_wI, zk_wR, zk_wC, zr_wI, zr_wC, zi_wR, zn_wI, zn_wR, zn_wC, if_true, if_false, true_or, or_true, or_false, false_or, true_and, and_true, ↓reduceIte, reduceCtorEq, Nat.reduceEqDiff, Nat.reduceLT, Nat.reduceLeDiff, Nat.reduceAdd, Nat.reduceSub, Nat.reduceMul, Int32.reduceLT, Int32.reduceLE, Int32.reduceAdd, Int32.reduceMul, Int32.reduceSub, Int32.reduceToNatClampNeg, and_self, or_self, and_false, false_and, not_true_eq_false, not_false_eq_true, nI_ltI' (show x < 2 ^ 31 by omega) (show k < 2 ^ 31 by omega), hlt, u, nI_1, Bool.true_or]
      · have u' : usd r x t = false := Bool.eq_false_iff.mpr u
        by_cases q : r x = t
        · simp +decide only [u_X11_isUsed_0, u_X11_isUsed_1, u_X11_isUsed_2, u_X11_isUsed_3, u_X11_isUsed_7, u_X11_isUsed_8, u_X11_isUsed_11, u_X11_isUsed_12, u_X11_isUsed_15, u_X11_isUsed_16, u_X11_isUsed_19, u_X11_isUsed_21, u_X11_isUsed_22, u_X11_isUsed_23, u_X11_isUsed_26, u_X11_isUsed_27, u_X11_isUsed_30, u_X11_isUsed_31, u_X11_isUsed_32, u_X11_isUsed_35, u_X11_isUsed_38, u_X11_isUsed_39, zcl_i, zcl_r, zcl_l, zcl_0, Option.bind_some, Option.bind_none, Option.toList_some, Option.toList_none, List.cons_append, List.nil_append, zk_wI, zk_wR, zk_wC, zr_wI, zr_wC, zi_wR, zn_wI, zn_wR, zn_wC, if_true, if_false, true_or, or_true, or_false, false_or, true_and, and_true, ↓reduceIte, reduceCtorEq, Nat.reduceEqDiff, Nat.reduceLT, Nat.reduceLeDiff, Nat.reduceAdd, Nat.reduceSub, Nat.reduceMul, Int32.reduceLT, Int32.reduceLE, Int32.reduceAdd, Int32.reduceMul, Int32.reduceSub, Int32.reduceToNatClampNeg, and_self, or_self, and_false, false_and, not_true_eq_false, not_false_eq_true, nI_ltI' (show x < 2 ^ 31 by omega) (show k < 2 ^ 31 by omega), hlt, u', K37 S, R37_24 S, K48 S, zix_nI (show x < 5 by omega) (by decide), h1, e1, q, nI_1, Bool.false_or, decide_true]
        · simp +decide only [u_X11_isUsed_0, u_X11_isUsed_1, u_X11_isUsed_2, u_X11_isUsed_3, u_X11_isUsed_7, u_X11_isUsed_8, u_X11_isUsed_11, u_X11_isUsed_12, u_X11_isUsed_15, u_X11_isUsed_16, u_X11_isUsed_19, u_X11_isUsed_21, u_X11_isUsed_22, u_X11_isUsed_23, u_X11_isUsed_26, u_X11_isUsed_27, u_X11_isUsed_30, u_X11_isUsed_31, u_X11_isUsed_32, u_X11_isUsed_35, u_X11_isUsed_38, u_X11_isUsed_39, zcl_i, zcl_r, zcl_l, zcl_0, Option.bind_some, Option.bind_none, Option.toList_some, Option.toList_none, List.cons_append, List.nil_append, zk_wI, zk_wR, zk_wC, zr_wI, zr_wC, zi_wR, zn_wI, zn_wR, zn_wC, if_true, if_false, true_or, or_true, or_false, false_or, true_and, and_true, ↓reduceIte, reduceCtorEq, Nat.reduceEqDiff, Nat.reduceLT, Nat.reduceLeDiff, Nat.reduceAdd, Nat.reduceSub, Nat.reduceMul, Int32.reduceLT, Int32.reduceLE, Int32.reduceAdd, Int32.reduceMul, Int32.reduceSub, Int32.reduceToNatClampNeg, and_self, or_self, and_false, false_and, not_true_eq_false, not_false_eq_true, nI_ltI' (show x < 2 ^ 31 by omega) (show k < 2 ^ 31 by omega), hlt, u', K37 S, R37_24 S, K48 S, zix_nI (show x < 5 by omega) (by decide), h1, e1, q, nI_1, Bool.false_or, decide_false]
  rw [e_X11_isUsed]
  simp +decide only [u_X11_isUsed_0, u_X11_isUsed_1, u_X11_isUsed_2, u_X11_isUsed_3, u_X11_isUsed_7, u_X11_isUsed_8, u_X11_isUsed_11, u_X11_isUsed_12, u_X11_isUsed_15, u_X11_isUsed_16, u_X11_isUsed_19, u_X11_isUsed_21, u_X11_isUsed_22, u_X11_isUsed_23, u_X11_isUsed_26, u_X11_isUsed_27, u_X11_isUsed_30, u_X11_isUsed_31, u_X11_isUsed_32, u_X11_isUsed_35, u_X11_isUsed_38, u_X11_isUsed_39, zcl_i, zcl_r, zcl_l, zcl_0, Option.bind_some, Option.bind_none, Option.toList_some, Option.toList_none, List.cons_append, List.nil_append, zk_wI, zk_wR, zk_wC, zr_wI, zr_wC, zi_wR, zn_wI, zn_wR, zn_wC, if_true, if_false, true_or, or_true, or_false, false_or, true_and, and_true, ↓reduceIte, reduceCtorEq, Nat.reduceEqDiff, Nat.reduceLT, Nat.reduceLeDiff, Nat.reduceAdd, Nat.reduceSub, Nat.reduceMul, Int32.reduceLT, Int32.reduceLE, Int32.reduceAdd, Int32.reduceMul, Int32.reduceSub, Int32.reduceToNatClampNeg, and_self, or_self, and_false, false_and, not_true_eq_false, not_false_eq_true]
  exact key k 0 (by omega)
def mfM (b : Bst) : Int32 := match b with
  | none => -1
  | some q => nI q.1
def NM (h G : zH) (n k : Nat) (r : Nat → Nat) (b : Bst) : Prop := Pres h G ∧ zi G 37 26 = mfM b ∧ (∀ q, b = some q → q.1 ≤ n ∧ ∀ x, x < n → zi G 49 x = nI (q.2 x)) ∧ ∀ x, x < k → zi G 48 x = nI (r x)
theorem bt_mfM {b : Bst} {f n : Nat} (hb : ∀ q, b = some q → q.1 ≤ n) (hn : n ≤ 5) (hf : f < 100) : (mfM b < nI f) = (bt b f = true) := by
  cases b with
  | none =>
    have : (-1 : Int32) < nI f := by
      rw [Int32.lt_iff_toInt_lt, nI_toInt (by omega)]
      have : (-1 : Int32).toInt = -1 := by decide
      omega
    simp [mfM, bt, this]
  | some q =>
    have := hb q rfl
    show (nI q.1 < nI f) = _
    rw [nI_ltI' (by omega) (by omega)]
    simp [bt]
theorem c_lookAtRow {d : Nat} {h : zH} (S : St h) {kn : Int32} (k8 : zi h 37 8 = kn) {n : Nat} (hn : n ≤ 5) {r : Nat → Nat} (hr : ∀ x, x < n → r x < 8) {b : Bst} {G : zH} (I : NM h G n n r b) : ∃ G', zcall (zP zM) (d + 5) 115 [.inr (.inr (some 37)), .inl (nI n)] G = some (none, G') ∧ NM h G' n n r (nlook (mT h) (0, kn, 0, 0, 0, 0) n r b) := by
  obtain ⟨P, i1, i2, i3⟩ := I
  have SG := P.St S
  have m1 : mT G = mT h := mT_P P
  have k8' : zi G 37 8 = kn := (P.2.2.2.2 37 8 (zscr_no (by omega))).trans k8
  have run : ∀ (mm x : Nat), x + mm = n → zX (d + 4) tb_X11_lookAtRow 10 [some (.inr (.inr (some 37))), some (.inl (nI n)), some (.inl (nI x))] [] (mN G (oP (mT h) r x (0, kn, 0, 0, 0, 0))) = zX (d + 4) tb_X11_lookAtRow 31 [some (.inr (.inr (some 37))), some (.inl (nI n)), some (.inl (nI n))] [] (mN G (oP (mT h) r n (0, kn, 0, 0, 0, 0))) := by
    intro mm
    induction mm with
    | zero =>
      intro x hx
      have e : x = n := by omega
      subst e
      rw [u_X11_lookAtRow_10]
      simp +decide only [u_X11_lookAtRow_11, u_X11_lookAtRow_12, zcl_i, zcl_r, zcl_l, zcl_0, Option.bind_some, Option.bind_none, Option.toList_some, Option.toList_none, List.cons_append, List.nil_append, zk_wI, zk_wR, zk_wC, zr_wI, zr_wC, zi_wR, zn_wI, zn_wR, zn_wC, if_true, if_false, true_or, or_true, or_false, false_or, true_and, and_true, ↓reduceIte, reduceCtorEq, Nat.reduceEqDiff, Nat.reduceLT, Nat.reduceLeDiff, Nat.reduceAdd, Nat.reduceSub, Nat.reduceMul, Int32.reduceLT, Int32.reduceLE, Int32.reduceAdd, Int32.reduceMul, Int32.reduceSub, Int32.reduceToNatClampNeg, and_self, or_self, and_false, false_and, not_true_eq_false, not_false_eq_true, nI_ltI' (show x < 2 ^ 31 by omega) (show x < 2 ^ 31 by omega), Nat.lt_irrefl]
    | succ mm ih =>
      intro x hx
      have hlt : x < n := by omega
      have h48 : ∀ s, zi (mN G s) 48 x = nI (r x) := fun s => (zi_mN (by omega)).trans (i3 x hlt)
      have gh : ∀ d s, zcall (zP zM) (d + 4) 109 [.inr (.inr (some 37)), .inl (nI (r x))] (mN G s) = some (none, mN G (mT h (r x) s)) := fun d s => by
        rw [← m1]
        exact c_goHeard SG (hr x hlt)
      refine Eq.trans ?_ (ih (x + 1) (by omega))
      rw [u_X11_lookAtRow_10]
      simp +decide only [u_X11_lookAtRow_0, u_X11_lookAtRow_1, u_X11_lookAtRow_2, u_X11_lookAtRow_5, u_X11_lookAtRow_8, u_X11_lookAtRow_9, u_X11_lookAtRow_11, u_X11_lookAtRow_12, u_X11_lookAtRow_15, u_X11_lookAtRow_16, u_X11_lookAtRow_17, u_X11_lookAtRow_20, u_X11_lookAtRow_21, u_X11_lookAtRow_22, u_X11_lookAtRow_25, u_X11_lookAtRow_28, u_X11_lookAtRow_32, u_X11_lookAtRow_35, u_X11_lookAtRow_38, u_X11_lookAtRow_39, u_X11_lookAtRow_42, u_X11_lookAtRow_43, u_X11_lookAtRow_46, u_X11_lookAtRow_49, u_X11_lookAtRow_50, u_X11_lookAtRow_51, u_X11_lookAtRow_54, u_X11_lookAtRow_57, u_X11_lookAtRow_58, u_X11_lookAtRow_59, u_X11_lookAtRow_60, u_X11_lookAtRow_61, u_X11_lookAtRow_64, u_X11_lookAtRow_65, u_X11_lookAtRow_68, u_X11_lookAtRow_69, u_X11_lookAtRow_70, u_X11_lookAtRow_73, u_X11_lookAtRow_74, u_X11_lookAtRow_75, u_X11_lookAtRow_76, u_X11_lookAtRow_79, u_X11_lookAtRow_82, zcl_i, zcl_r, zcl_l, zcl_0, Option.bind_some, Option.bind_none, Option.toList_some, Option.toList_none, List.cons_append, List.nil_append, zk_wI, zk_wR, zk_wC, zr_wI, zr_wC, zi_wR, zn_wI, zn_wR, zn_wC, if_true, if_false, true_or, or_true, or_false, false_or, true_and, and_true, ↓reduceIte, reduceCtorEq, Nat.reduceEqDiff, Nat.reduceLT, Nat.reduceLeDiff, Nat.reduceAdd, Nat.reduceSub, Nat.reduceMul, Int32.reduceLT, Int32.reduceLE, Int32.reduceAdd, Int32.reduceMul, Int32.reduceSub, Int32.reduceToNatClampNeg, and_self, or_self, and_false, false_and, not_true_eq_false, not_false_eq_true, nI_ltI' (show x < 2 ^ 31 by omega) (show n < 2 ^ 31 by omega), hlt, zk_mN, zr_mN, K37 SG, R37_24 SG, K48 SG, zix_nI (show x < 5 by omega) (by decide), h48, gh, nI_1]
      rfl
  obtain ⟨f, f1, f2⟩ := Fl_oP (h := h) (r := r) (s0 := (0, kn, 0, 0, 0, 0)) rfl n
  have hb : ∀ q, b = some q → q.1 ≤ n := fun q hq => (i2 q hq).1
  have em := bt_mfM hb hn (show f < 100 by omega)
  rw [nlook, Fl_flN f2 (by omega)]
  generalize hs : oP (mT h) r n (0, kn, 0, 0, 0, 0) = s at run f2
  have z22 : zi (mN G s) 37 22 = nI f := zi_mN22.trans f2
  have z26 : zi (mN G s) 37 26 = mfM b := (zi_mN (by omega)).trans i1
  have start : zcall (zP zM) (d + 5) 115 [.inr (.inr (some 37)), .inl (nI n)] G = zX (d + 4) tb_X11_lookAtRow 31 [some (.inr (.inr (some 37))), some (.inl (nI n)), some (.inl (nI n))] [] (mN G s) := by
    rw [e_X11_lookAtRow]
    simp +decide only [u_X11_lookAtRow_0, u_X11_lookAtRow_1, u_X11_lookAtRow_2, u_X11_lookAtRow_5, u_X11_lookAtRow_8, u_X11_lookAtRow_9, u_X11_lookAtRow_11, u_X11_lookAtRow_12, u_X11_lookAtRow_15, u_X11_lookAtRow_16, u_X11_lookAtRow_17, u_X11_lookAtRow_20, u_X11_lookAtRow_21, u_X11_lookAtRow_22, u_X11_lookAtRow_25, u_X11_lookAtRow_28, u_X11_lookAtRow_32, u_X11_lookAtRow_35, u_X11_lookAtRow_38, u_X11_lookAtRow_39, u_X11_lookAtRow_42, u_X11_lookAtRow_43, u_X11_lookAtRow_46, u_X11_lookAtRow_49, u_X11_lookAtRow_50, u_X11_lookAtRow_51, u_X11_lookAtRow_54, u_X11_lookAtRow_57, u_X11_lookAtRow_58, u_X11_lookAtRow_59, u_X11_lookAtRow_60, u_X11_lookAtRow_61, u_X11_lookAtRow_64, u_X11_lookAtRow_65, u_X11_lookAtRow_68, u_X11_lookAtRow_69, u_X11_lookAtRow_70, u_X11_lookAtRow_73, u_X11_lookAtRow_74, u_X11_lookAtRow_75, u_X11_lookAtRow_76, u_X11_lookAtRow_79, u_X11_lookAtRow_82, zcl_i, zcl_r, zcl_l, zcl_0, Option.bind_some, Option.bind_none, Option.toList_some, Option.toList_none, List.cons_append, List.nil_append, zk_wI, zk_wR, zk_wC, zr_wI, zr_wC, zi_wR, zn_wI, zn_wR, zn_wC, if_true, if_false, true_or, or_true, or_false, false_or, true_and, and_true, ↓reduceIte, reduceCtorEq, Nat.reduceEqDiff, Nat.reduceLT, Nat.reduceLeDiff, Nat.reduceAdd, Nat.reduceSub, Nat.reduceMul, Int32.reduceLT, Int32.reduceLE, Int32.reduceAdd, Int32.reduceMul, Int32.reduceSub, Int32.reduceToNatClampNeg, and_self, or_self, and_false, false_and, not_true_eq_false, not_false_eq_true, K37 SG, k8', c_beginNight SG]
    exact run n 0 (by omega)
  have PM : Pres h (mN G s) := P.mN
  have keep : NM h (mN G s) n n r b := ⟨PM, z26, fun q hq => ⟨hb q hq, fun x hx => (zi_mN (by omega)).trans ((i2 q hq).2 x hx)⟩, fun x hx => (zi_mN (by omega)).trans (i3 x hx)⟩
  by_cases c0 : s.2.2.2.2.2 = 0
  · by_cases g : bt b f = true
    · have S2 : St (zwI (mN G s) 37 26 (nI f)) := SG
      have copy : ∀ (mm x : Nat), x + mm = n → zX (d + 4) tb_X11_lookAtRow 59 [some (.inr (.inr (some 37))), some (.inl (nI n)), some (.inl (nI x))] [] (zwS (zwI (mN G s) 37 26 (nI f)) 49 0 x (fun y => nI (r y))) = some (none, zwS (zwI (mN G s) 37 26 (nI f)) 49 0 n (fun y => nI (r y))) := by
        intro mm
        induction mm with
        | zero =>
          intro x hx
          have e : x = n := by omega
          subst e
          simp +decide only [u_X11_lookAtRow_0, u_X11_lookAtRow_1, u_X11_lookAtRow_2, u_X11_lookAtRow_5, u_X11_lookAtRow_8, u_X11_lookAtRow_9, u_X11_lookAtRow_10, u_X11_lookAtRow_11, u_X11_lookAtRow_12, u_X11_lookAtRow_15, u_X11_lookAtRow_16, u_X11_lookAtRow_17, u_X11_lookAtRow_20, u_X11_lookAtRow_21, u_X11_lookAtRow_22, u_X11_lookAtRow_25, u_X11_lookAtRow_28, u_X11_lookAtRow_31, u_X11_lookAtRow_32, u_X11_lookAtRow_35, u_X11_lookAtRow_38, u_X11_lookAtRow_39, u_X11_lookAtRow_42, u_X11_lookAtRow_43, u_X11_lookAtRow_46, u_X11_lookAtRow_49, u_X11_lookAtRow_50, u_X11_lookAtRow_51, u_X11_lookAtRow_54, u_X11_lookAtRow_57, u_X11_lookAtRow_58, u_X11_lookAtRow_59, u_X11_lookAtRow_60, u_X11_lookAtRow_61, u_X11_lookAtRow_64, u_X11_lookAtRow_65, u_X11_lookAtRow_68, u_X11_lookAtRow_69, u_X11_lookAtRow_70, u_X11_lookAtRow_73, u_X11_lookAtRow_74, u_X11_lookAtRow_75, u_X11_lookAtRow_76, u_X11_lookAtRow_79, u_X11_lookAtRow_82, zcl_i, zcl_r, zcl_l, zcl_0, Option.bind_some, Option.bind_none, Option.toList_some, Option.toList_none, List.cons_append, List.nil_append, zk_wI, zk_wR, zk_wC, zr_wI, zr_wC, zi_wR, zn_wI, zn_wR, zn_wC, if_true, if_false, true_or, or_true, or_false, false_or, true_and, and_true, ↓reduceIte, reduceCtorEq, Nat.reduceEqDiff, Nat.reduceLT, Nat.reduceLeDiff, Nat.reduceAdd, Nat.reduceSub, Nat.reduceMul, Int32.reduceLT, Int32.reduceLE, Int32.reduceAdd, Int32.reduceMul, Int32.reduceSub, Int32.reduceToNatClampNeg, and_self, or_self, and_false, false_and, not_true_eq_false, not_false_eq_true, nI_ltI' (show x < 2 ^ 31 by omega) (show x < 2 ^ 31 by omega), Nat.lt_irrefl]
        | succ mm ih =>
          intro x hx
          have hlt : x < n := by omega
          have h48 : zi (zwS (zwI (mN G s) 37 26 (nI f)) 49 0 x (fun y => nI (r y))) 48 x = nI (r x) := by
            rw [zi_wS, if_neg (by omega), zi_wI, if_neg (by omega), zi_mN (by omega)]; exact i3 x hlt
          have e1 : zwI (zwS (zwI (mN G s) 37 26 (nI f)) 49 0 x (fun y => nI (r y))) 49 x (nI (r x)) = zwS (zwI (mN G s) 37 26 (nI f)) 49 0 (x + 1) (fun y => nI (r y)) := by
            have := zwS_succ (h := zwI (mN G s) 37 26 (nI f)) (a := 49) (b := 0) (n := x) (f := fun y => nI (r y))
            rw [Nat.zero_add] at this
            exact this
          refine Eq.trans ?_ (ih (x + 1) (by omega))
          rw [u_X11_lookAtRow_59]
          simp +decide only [u_X11_lookAtRow_0, u_X11_lookAtRow_1, u_X11_lookAtRow_2, u_X11_lookAtRow_5, u_X11_lookAtRow_8, u_X11_lookAtRow_9, u_X11_lookAtRow_10, u_X11_lookAtRow_11, u_X11_lookAtRow_12, u_X11_lookAtRow_15, u_X11_lookAtRow_16, u_X11_lookAtRow_17, u_X11_lookAtRow_20, u_X11_lookAtRow_21, u_X11_lookAtRow_22, u_X11_lookAtRow_25, u_X11_lookAtRow_28, u_X11_lookAtRow_31, u_X11_lookAtRow_32, u_X11_lookAtRow_35, u_X11_lookAtRow_38, u_X11_lookAtRow_39, u_X11_lookAtRow_42, u_X11_lookAtRow_43, u_X11_lookAtRow_46, u_X11_lookAtRow_49, u_X11_lookAtRow_50, u_X11_lookAtRow_51, u_X11_lookAtRow_54, u_X11_lookAtRow_57, u_X11_lookAtRow_58, u_X11_lookAtRow_60, u_X11_lookAtRow_61, u_X11_lookAtRow_64, u_X11_lookAtRow_65, u_X11_lookAtRow_68, u_X11_lookAtRow_69, u_X11_lookAtRow_70, u_X11_lookAtRow_73, u_X11_lookAtRow_74, u_X11_lookAtRow_75, u_X11_lookAtRow_76, u_X11_lookAtRow_79, u_X11_lookAtRow_82, zcl_i, zcl_r, zcl_l, zcl_0, Option.bind_some, Option.bind_none, Option.toList_some, Option.toList_none, List.cons_append, List.nil_append, zk_wI, zk_wR, zk_wC, zr_wI, zr_wC, zi_wR, zn_wI, zn_wR, zn_wC, if_true, if_false, true_or, or_true, or_false, false_or, true_and, and_true, ↓reduceIte, reduceCtorEq, Nat.reduceEqDiff, Nat.reduceLT, Nat.reduceLeDiff, Nat.reduceAdd, Nat.reduceSub, Nat.reduceMul, Int32.reduceLT, Int32.reduceLE, Int32.reduceAdd, Int32.reduceMul, Int32.reduceSub, Int32.reduceToNatClampNeg, and_self, or_self, and_false, false_and, not_true_eq_false, not_false_eq_true, nI_ltI' (show x < 2 ^ 31 by omega) (show n < 2 ^ 31 by omega), hlt, zk_wS, zr_wS, K37 S2, R37_24 S2, R37_25 S2, K48 S2, K49 S2, zix_nI (show x < 5 by omega) (by decide), h48, e1, nI_1]
      have c := copy n 0 (by omega)
      rw [zwS_0] at c
      refine ⟨zwS (zwI (mN G s) 37 26 (nI f)) 49 0 n (fun y => nI (r y)), start.trans ?_, ?_⟩
      · refine Eq.trans ?_ c
        simp +decide only [u_X11_lookAtRow_0, u_X11_lookAtRow_1, u_X11_lookAtRow_2, u_X11_lookAtRow_5, u_X11_lookAtRow_8, u_X11_lookAtRow_9, u_X11_lookAtRow_10, u_X11_lookAtRow_11, u_X11_lookAtRow_12, u_X11_lookAtRow_15, u_X11_lookAtRow_16, u_X11_lookAtRow_17, u_X11_lookAtRow_20, u_X11_lookAtRow_21, u_X11_lookAtRow_22, u_X11_lookAtRow_25, u_X11_lookAtRow_28, u_X11_lookAtRow_31, u_X11_lookAtRow_32, u_X11_lookAtRow_35, u_X11_lookAtRow_38, u_X11_lookAtRow_39, u_X11_lookAtRow_42, u_X11_lookAtRow_43, u_X11_lookAtRow_46, u_X11_lookAtRow_49, u_X11_lookAtRow_50, u_X11_lookAtRow_51, u_X11_lookAtRow_54, u_X11_lookAtRow_57, u_X11_lookAtRow_58, u_X11_lookAtRow_60, u_X11_lookAtRow_61, u_X11_lookAtRow_64, u_X11_lookAtRow_65, u_X11_lookAtRow_68, u_X11_lookAtRow_69, u_X11_lookAtRow_70, u_X11_lookAtRow_73, u_X11_lookAtRow_74, u_X11_lookAtRow_75, u_X11_lookAtRow_76, u_X11_lookAtRow_79, u_X11_lookAtRow_82, zcl_i, zcl_r, zcl_l, zcl_0, Option.bind_some, Option.bind_none, Option.toList_some, Option.toList_none, List.cons_append, List.nil_append, zk_wI, zk_wR, zk_wC, zr_wI, zr_wC, zi_wR, zn_wI, zn_wR, zn_wC, if_true, if_false, true_or, or_true, or_false, false_or, true_and, and_true, ↓reduceIte, reduceCtorEq, Nat.reduceEqDiff, Nat.reduceLT, Nat.reduceLeDiff, Nat.reduceAdd, Nat.reduceSub, Nat.reduceMul, Int32.reduceLT, Int32.reduceLE, Int32.reduceAdd, Int32.reduceMul, Int32.reduceSub, Int32.reduceToNatClampNeg, and_self, or_self, and_false, false_and, not_true_eq_false, not_false_eq_true, zk_mN, K37 SG, zi_mN23, c0, z22, z26, em, g]
        rfl
      · rw [if_pos ⟨c0, g⟩]
        have PS : Pres h (zwS (zwI (mN G s) 37 26 (nI f)) 49 0 n (fun y => nI (r y))) := ⟨P.1, P.2.1, P.2.2.1, P.2.2.2.1, fun x y hx => by
          rw [zi_wS, if_neg]
          · exact ((PM.w (by decide)).2.2.2.2 x y hx)
          · rintro ⟨rfl, -⟩
            simp [zscr] at hx⟩
        refine ⟨PS, ?_, fun q hq => ?_, fun x hx => ?_⟩
        · rw [zi_wS, if_neg (by omega), zi_wI, if_pos ⟨rfl, rfl⟩]; rfl
        · cases hq
          exact ⟨f1, fun x hx => by rw [zi_wS, if_pos (by omega), Nat.sub_zero]⟩
        · rw [zi_wS, if_neg (by omega), zi_wI, if_neg (by omega), zi_mN (by omega)]; exact i3 x hx
    · refine ⟨mN G s, start.trans ?_, ?_⟩
      · simp +decide only [u_X11_lookAtRow_0, u_X11_lookAtRow_1, u_X11_lookAtRow_2, u_X11_lookAtRow_5, u_X11_lookAtRow_8, u_X11_lookAtRow_9, u_X11_lookAtRow_10, u_X11_lookAtRow_11, u_X11_lookAtRow_12, u_X11_lookAtRow_15, u_X11_lookAtRow_16, u_X11_lookAtRow_17, u_X11_lookAtRow_20, u_X11_lookAtRow_21, u_X11_lookAtRow_22, u_X11_lookAtRow_25, u_X11_lookAtRow_28, u_X11_lookAtRow_31, u_X11_lookAtRow_32, u_X11_lookAtRow_35, u_X11_lookAtRow_38, u_X11_lookAtRow_39, u_X11_lookAtRow_42, u_X11_lookAtRow_43, u_X11_lookAtRow_46, u_X11_lookAtRow_49, u_X11_lookAtRow_50, u_X11_lookAtRow_51, u_X11_lookAtRow_54, u_X11_lookAtRow_57, u_X11_lookAtRow_58, u_X11_lookAtRow_60, u_X11_lookAtRow_61, u_X11_lookAtRow_64, u_X11_lookAtRow_65, u_X11_lookAtRow_68, u_X11_lookAtRow_69, u_X11_lookAtRow_70, u_X11_lookAtRow_73, u_X11_lookAtRow_74, u_X11_lookAtRow_75, u_X11_lookAtRow_76, u_X11_lookAtRow_79, u_X11_lookAtRow_82, zcl_i, zcl_r, zcl_l, zcl_0, Option.bind_some, Option.bind_none, Option.toList_some, Option.toList_none, List.cons_append, List.nil_append, zk_wI, zk_wR, zk_wC, zr_wI, zr_wC, zi_wR, zn_wI, zn_wR, zn_wC, if_true, if_false, true_or, or_true, or_false, false_or, true_and, and_true, ↓reduceIte, reduceCtorEq, Nat.reduceEqDiff, Nat.reduceLT, Nat.reduceLeDiff, Nat.reduceAdd, Nat.reduceSub, Nat.reduceMul, Int32.reduceLT, Int32.reduceLE, Int32.reduceAdd, Int32.reduceMul, Int32.reduceSub, Int32.reduceToNatClampNeg, and_self, or_self, and_false, false_and, not_true_eq_false, not_false_eq_true, zk_mN, K37 SG, zi_mN23, c0, z22, z26, em, g]
      · rw [if_neg (fun z => g z.2)]
        exact keep
  · refine ⟨mN G s, start.trans ?_, ?_⟩
    · simp +decide only [u_X11_lookAtRow_0, u_X11_lookAtRow_1, u_X11_lookAtRow_2, u_X11_lookAtRow_5, u_X11_lookAtRow_8, u_X11_lookAtRow_9, u_X11_lookAtRow_10, u_X11_lookAtRow_11, u_X11_lookAtRow_12, u_X11_lookAtRow_15, u_X11_lookAtRow_16, u_X11_lookAtRow_17, u_X11_lookAtRow_20, u_X11_lookAtRow_21, u_X11_lookAtRow_22, u_X11_lookAtRow_25, u_X11_lookAtRow_28, u_X11_lookAtRow_31, u_X11_lookAtRow_32, u_X11_lookAtRow_35, u_X11_lookAtRow_38, u_X11_lookAtRow_39, u_X11_lookAtRow_42, u_X11_lookAtRow_43, u_X11_lookAtRow_46, u_X11_lookAtRow_49, u_X11_lookAtRow_50, u_X11_lookAtRow_51, u_X11_lookAtRow_54, u_X11_lookAtRow_57, u_X11_lookAtRow_58, u_X11_lookAtRow_60, u_X11_lookAtRow_61, u_X11_lookAtRow_64, u_X11_lookAtRow_65, u_X11_lookAtRow_68, u_X11_lookAtRow_69, u_X11_lookAtRow_70, u_X11_lookAtRow_73, u_X11_lookAtRow_74, u_X11_lookAtRow_75, u_X11_lookAtRow_76, u_X11_lookAtRow_79, u_X11_lookAtRow_82, zcl_i, zcl_r, zcl_l, zcl_0, Option.bind_some, Option.bind_none, Option.toList_some, Option.toList_none, List.cons_append, List.nil_append, zk_wI, zk_wR, zk_wC, zr_wI, zr_wC, zi_wR, zn_wI, zn_wR, zn_wC, if_true, if_false, true_or, or_true, or_false, false_or, true_and, and_true, ↓reduceIte, reduceCtorEq, Nat.reduceEqDiff, Nat.reduceLT, Nat.reduceLeDiff, Nat.reduceAdd, Nat.reduceSub, Nat.reduceMul, Int32.reduceLT, Int32.reduceLE, Int32.reduceAdd, Int32.reduceMul, Int32.reduceSub, Int32.reduceToNatClampNeg, and_self, or_self, and_false, false_and, not_true_eq_false, not_false_eq_true, zk_mN, K37 SG, zi_mN23, c0]
    · rw [if_neg (fun z => c0 z.1)]
      exact keep
theorem l_seek {d : Nat} {h : zH} (S : St h) {N n : Nat} (T : IvT h N) (hn : n ≤ 5) {kn : Int32} (k8 : zi h 37 8 = kn) : ∀ (m k : Nat), k + 1 + m = n → ∀ (r : Nat → Nat) (b0 : Bst), (∀ x, x < k → r x < 8) → ∀ (i t : Nat) (G : zH), t + i = N → NM h G n k r (nf (fun t b => if usd r k t = true then b else nv (mT h) (0, kn, 0, 0, 0, 0) N m (k + 1) (up r k t) b) t b0) → zi G 48 k + 1 = nI t → ∃ G', zX (d + 5) tb_X11_seekNever 14 [some (.inr (.inr (some 37))), some (.inl (nI n)), some (.inl (nI k))] [] G = zX (d + 5) tb_X11_seekNever 14 [some (.inr (.inr (some 37))), some (.inl (nI n)), some (.inl (nI k + (-1)))] [] G' ∧ NM h G' n k r (nf (fun t b => if usd r k t = true then b else nv (mT h) (0, kn, 0, 0, 0, 0) N m (k + 1) (up r k t) b) N b0) := by
  intro m
  induction m with
  | zero =>
    intro k hk r b0 hr i
    induction i with
    | zero =>
      intro t G ht I e
      have et : t = N := by omega
      subst et
      obtain ⟨P, i1, i2, i3⟩ := I
      have SG := P.St S
      have TG := P.IvT T
      have k0 : ¬ nI k < 0 := nI_pos (by omega)
      have z48 : zi (zwI G 48 k (nI t)) 48 k = nI t := by rw [zi_wI, if_pos ⟨rfl, rfl⟩]
      have z2 : zi (zwI G 48 k (nI t)) 37 2 = nI t := by rw [zi_wI, if_neg (by omega)]; exact TG.2.2.1
      refine ⟨zwI G 48 k (nI t), ?_, P.w (by simp [zscr]), by rw [zi_wI, if_neg (by omega)]; exact i1, fun q hq => ⟨(i2 q hq).1, fun x hx => by rw [zi_wI, if_neg (by omega)]; exact (i2 q hq).2 x hx⟩, fun x hx => by rw [zi_wI, if_neg (by omega)]; exact i3 x hx⟩
      rw [u_X11_seekNever_14]
      simp +decide only [u_X11_seekNever_0, u_X11_seekNever_1, u_X11_seekNever_2, u_X11_seekNever_5, u_X11_seekNever_6, u_X11_seekNever_7, u_X11_seekNever_8, u_X11_seekNever_11, u_X11_seekNever_12, u_X11_seekNever_13, u_X11_seekNever_15, u_X11_seekNever_18, u_X11_seekNever_19, u_X11_seekNever_22, u_X11_seekNever_23, u_X11_seekNever_24, u_X11_seekNever_25, u_X11_seekNever_26, u_X11_seekNever_27, u_X11_seekNever_28, u_X11_seekNever_29, u_X11_seekNever_32, u_X11_seekNever_33, u_X11_seekNever_34, u_X11_seekNever_35, u_X11_seekNever_38, u_X11_seekNever_41, u_X11_seekNever_44, u_X11_seekNever_47, u_X11_seekNever_48, u_X11_seekNever_49, u_X11_seekNever_50, u_X11_seekNever_53, u_X11_seekNever_54, u_X11_seekNever_55, u_X11_seekNever_58, u_X11_seekNever_61, u_X11_seekNever_62, u_X11_seekNever_63, u_X11_seekNever_64, u_X11_seekNever_65, u_X11_seekNever_68, u_X11_seekNever_69, u_X11_seekNever_70, u_X11_seekNever_73, u_X11_seekNever_76, u_X11_seekNever_79, u_X11_seekNever_80, u_X11_seekNever_83, u_X11_seekNever_84, u_X11_seekNever_85, u_X11_seekNever_86, u_X11_seekNever_89, zcl_i, zcl_r, zcl_l, zcl_0, Option.bind_some, Option.bind_none, Option.toList_some, Option.toList_none, List.cons_append, List.nil_append, zk_wI, zk_wR, zk_wC, zr_wI, zr_wC, zi_wR, zn_wI, zn_wR, zn_wC, if_true, if_false, true_or, or_true, or_false, false_or, true_and, and_true, ↓reduceIte, reduceCtorEq, Nat.reduceEqDiff, Nat.reduceLT, Nat.reduceLeDiff, Nat.reduceAdd, Nat.reduceSub, Nat.reduceMul, Int32.reduceLT, Int32.reduceLE, Int32.reduceAdd, Int32.reduceMul, Int32.reduceSub, Int32.reduceToNatClampNeg, and_self, or_self, and_false, false_and, not_true_eq_false, not_false_eq_true, k0, K37 SG, R37_24 SG, K48 SG, zix_nI (show k < 5 by omega) (by decide), e, z48, z2]
    | succ i ih2 =>
      intro t G ht I e
      obtain ⟨P, i1, i2, i3⟩ := I
      have SG := P.St S
      have TG := P.IvT T
      have hN8 := T.1
      have k0 : ¬ nI k < 0 := nI_pos (by omega)
      have S1 : St (zwI G 48 k (nI t)) := SG
      have z48 : zi (zwI G 48 k (nI t)) 48 k = nI t := by rw [zi_wI, if_pos ⟨rfl, rfl⟩]
      have z2 : zi (zwI G 48 k (nI t)) 37 2 = nI N := by rw [zi_wI, if_neg (by omega)]; exact TG.2.2.1
      have tN : (nI t = nI N) = (t = N) := nI_eqI' (by omega) (by omega)
      have tN' : ¬ t = N := by omega
      have en : nI n - 1 = nI k := by rw [show n = k + 1 by omega]; exact nI_pred k
      have cu := fun d => c_isUsed (d := d) S1 (show k ≤ 5 by omega) (show t < 8 by omega) (r := r) (fun x hx => ⟨by rw [zi_wI, if_neg (by omega)]; exact i3 x hx, hr x hx⟩)
      have J : ∀ b, b = nf (fun t b => if usd r k t = true then b else nv (mT h) (0, kn, 0, 0, 0, 0) N 0 (k + 1) (up r k t) b) t b0 → NM h (zwI G 48 k (nI t)) n (k + 1) (up r k t) b := fun b hb => by
        subst hb
        refine ⟨P.w (by simp [zscr]), by rw [zi_wI, if_neg (by omega)]; exact i1, fun q hq => ⟨(i2 q hq).1, fun x hx => by rw [zi_wI, if_neg (by omega)]; exact (i2 q hq).2 x hx⟩, fun x hx => ?_⟩
        by_cases ex : x = k
        · rw [ex, up_eq]; exact z48
        · rw [zi_wI, if_neg (by omega), up_lt (by omega)]; exact i3 x (by omega)
      by_cases u : usd r k t = true
      · obtain ⟨G', c1, c2⟩ := ih2 (t + 1) (zwI G 48 k (nI t)) (by omega) (by
          rw [nf, if_pos u]
          have := J _ rfl
          exact ⟨this.1, this.2.1, this.2.2.1, fun x hx => by rw [this.2.2.2 x (by omega), up_lt hx]⟩) (by rw [z48]; exact nI_1 t)
        refine ⟨G', Eq.trans ?_ c1, c2⟩
        rw [u_X11_seekNever_14]
        simp +decide only [u_X11_seekNever_0, u_X11_seekNever_1, u_X11_seekNever_2, u_X11_seekNever_5, u_X11_seekNever_6, u_X11_seekNever_7, u_X11_seekNever_8, u_X11_seekNever_11, u_X11_seekNever_12, u_X11_seekNever_13, u_X11_seekNever_15, u_X11_seekNever_18, u_X11_seekNever_19, u_X11_seekNever_22, u_X11_seekNever_23, u_X11_seekNever_24, u_X11_seekNever_25, u_X11_seekNever_26, u_X11_seekNever_27, u_X11_seekNever_28, u_X11_seekNever_29, u_X11_seekNever_32, u_X11_seekNever_33, u_X11_seekNever_34, u_X11_seekNever_35, u_X11_seekNever_38, u_X11_seekNever_41, u_X11_seekNever_44, u_X11_seekNever_47, u_X11_seekNever_48, u_X11_seekNever_49, u_X11_seekNever_50, u_X11_seekNever_53, u_X11_seekNever_54, u_X11_seekNever_55, u_X11_seekNever_58, u_X11_seekNever_61, u_X11_seekNever_62, u_X11_seekNever_63, u_X11_seekNever_64, u_X11_seekNever_65, u_X11_seekNever_68, u_X11_seekNever_69, u_X11_seekNever_70, u_X11_seekNever_73, u_X11_seekNever_76, u_X11_seekNever_79, u_X11_seekNever_80, u_X11_seekNever_83, u_X11_seekNever_84, u_X11_seekNever_85, u_X11_seekNever_86, u_X11_seekNever_89, zcl_i, zcl_r, zcl_l, zcl_0, Option.bind_some, Option.bind_none, Option.toList_some, Option.toList_none, List.cons_append, List.nil_append, zk_wI, zk_wR, zk_wC, zr_wI, zr_wC, zi_wR, zn_wI, zn_wR, zn_wC, if_true, if_false, true_or, or_true, or_false, false_or, true_and, and_true, ↓reduceIte, reduceCtorEq, Nat.reduceEqDiff, Nat.reduceLT, Nat.reduceLeDiff, Nat.reduceAdd, Nat.reduceSub, Nat.reduceMul, Int32.reduceLT, Int32.reduceLE, Int32.reduceAdd, Int32.reduceMul, Int32.reduceSub, Int32.reduceToNatClampNeg, and_self, or_self, and_false, false_and, not_true_eq_false, not_false_eq_true, k0, K37 SG, R37_24 SG, K48 SG, zix_nI (show k < 5 by omega) (by decide), e, z48, z2, tN, tN', cu, u]
      · have hkn : k + 1 = n := by omega
        have J1 := J _ rfl
        rw [hkn] at J1
        obtain ⟨G2, l1, l2⟩ := c_lookAtRow (d := d) S k8 hn (r := up r k t) (fun x hx => by
          by_cases ex : x = k
          · rw [ex, up_eq]; omega
          · rw [up_lt (by omega)]; exact hr x (by omega)) J1
        obtain ⟨G', c1, c2⟩ := ih2 (t + 1) G2 (by omega) (by
          rw [nf, if_neg u, nv, hkn]
          exact ⟨l2.1, l2.2.1, l2.2.2.1, fun x hx => by rw [l2.2.2.2 x (by omega), up_lt hx]⟩) (by rw [l2.2.2.2 k (by omega), up_eq]; exact nI_1 t)
        refine ⟨G', Eq.trans ?_ c1, c2⟩
        rw [u_X11_seekNever_14]
        simp +decide only [u_X11_seekNever_0, u_X11_seekNever_1, u_X11_seekNever_2, u_X11_seekNever_5, u_X11_seekNever_6, u_X11_seekNever_7, u_X11_seekNever_8, u_X11_seekNever_11, u_X11_seekNever_12, u_X11_seekNever_13, u_X11_seekNever_15, u_X11_seekNever_18, u_X11_seekNever_19, u_X11_seekNever_22, u_X11_seekNever_23, u_X11_seekNever_24, u_X11_seekNever_25, u_X11_seekNever_26, u_X11_seekNever_27, u_X11_seekNever_28, u_X11_seekNever_29, u_X11_seekNever_32, u_X11_seekNever_33, u_X11_seekNever_34, u_X11_seekNever_35, u_X11_seekNever_38, u_X11_seekNever_41, u_X11_seekNever_44, u_X11_seekNever_47, u_X11_seekNever_48, u_X11_seekNever_49, u_X11_seekNever_50, u_X11_seekNever_53, u_X11_seekNever_54, u_X11_seekNever_55, u_X11_seekNever_58, u_X11_seekNever_61, u_X11_seekNever_62, u_X11_seekNever_63, u_X11_seekNever_64, u_X11_seekNever_65, u_X11_seekNever_68, u_X11_seekNever_69, u_X11_seekNever_70, u_X11_seekNever_73, u_X11_seekNever_76, u_X11_seekNever_79, u_X11_seekNever_80, u_X11_seekNever_83, u_X11_seekNever_84, u_X11_seekNever_85, u_X11_seekNever_86, u_X11_seekNever_89, zcl_i, zcl_r, zcl_l, zcl_0, Option.bind_some, Option.bind_none, Option.toList_some, Option.toList_none, List.cons_append, List.nil_append, zk_wI, zk_wR, zk_wC, zr_wI, zr_wC, zi_wR, zn_wI, zn_wR, zn_wC, if_true, if_false, true_or, or_true, or_false, false_or, true_and, and_true, ↓reduceIte, reduceCtorEq, Nat.reduceEqDiff, Nat.reduceLT, Nat.reduceLeDiff, Nat.reduceAdd, Nat.reduceSub, Nat.reduceMul, Int32.reduceLT, Int32.reduceLE, Int32.reduceAdd, Int32.reduceMul, Int32.reduceSub, Int32.reduceToNatClampNeg, and_self, or_self, and_false, false_and, not_true_eq_false, not_false_eq_true, k0, K37 SG, R37_24 SG, K48 SG, zix_nI (show k < 5 by omega) (by decide), e, z48, z2, tN, tN', cu, u, en, l1]
  | succ m ih =>
    intro k hk r b0 hr i
    induction i with
    | zero =>
      intro t G ht I e
      have et : t = N := by omega
      subst et
      obtain ⟨P, i1, i2, i3⟩ := I
      have SG := P.St S
      have TG := P.IvT T
      have k0 : ¬ nI k < 0 := nI_pos (by omega)
      have z48 : zi (zwI G 48 k (nI t)) 48 k = nI t := by rw [zi_wI, if_pos ⟨rfl, rfl⟩]
      have z2 : zi (zwI G 48 k (nI t)) 37 2 = nI t := by rw [zi_wI, if_neg (by omega)]; exact TG.2.2.1
      refine ⟨zwI G 48 k (nI t), ?_, P.w (by simp [zscr]), by rw [zi_wI, if_neg (by omega)]; exact i1, fun q hq => ⟨(i2 q hq).1, fun x hx => by rw [zi_wI, if_neg (by omega)]; exact (i2 q hq).2 x hx⟩, fun x hx => by rw [zi_wI, if_neg (by omega)]; exact i3 x hx⟩
      rw [u_X11_seekNever_14]
      simp +decide only [u_X11_seekNever_0, u_X11_seekNever_1, u_X11_seekNever_2, u_X11_seekNever_5, u_X11_seekNever_6, u_X11_seekNever_7, u_X11_seekNever_8, u_X11_seekNever_11, u_X11_seekNever_12, u_X11_seekNever_13, u_X11_seekNever_15, u_X11_seekNever_18, u_X11_seekNever_19, u_X11_seekNever_22, u_X11_seekNever_23, u_X11_seekNever_24, u_X11_seekNever_25, u_X11_seekNever_26, u_X11_seekNever_27, u_X11_seekNever_28, u_X11_seekNever_29, u_X11_seekNever_32, u_X11_seekNever_33, u_X11_seekNever_34, u_X11_seekNever_35, u_X11_seekNever_38, u_X11_seekNever_41, u_X11_seekNever_44, u_X11_seekNever_47, u_X11_seekNever_48, u_X11_seekNever_49, u_X11_seekNever_50, u_X11_seekNever_53, u_X11_seekNever_54, u_X11_seekNever_55, u_X11_seekNever_58, u_X11_seekNever_61, u_X11_seekNever_62, u_X11_seekNever_63, u_X11_seekNever_64, u_X11_seekNever_65, u_X11_seekNever_68, u_X11_seekNever_69, u_X11_seekNever_70, u_X11_seekNever_73, u_X11_seekNever_76, u_X11_seekNever_79, u_X11_seekNever_80, u_X11_seekNever_83, u_X11_seekNever_84, u_X11_seekNever_85, u_X11_seekNever_86, u_X11_seekNever_89, zcl_i, zcl_r, zcl_l, zcl_0, Option.bind_some, Option.bind_none, Option.toList_some, Option.toList_none, List.cons_append, List.nil_append, zk_wI, zk_wR, zk_wC, zr_wI, zr_wC, zi_wR, zn_wI, zn_wR, zn_wC, if_true, if_false, true_or, or_true, or_false, false_or, true_and, and_true, ↓reduceIte, reduceCtorEq, Nat.reduceEqDiff, Nat.reduceLT, Nat.reduceLeDiff, Nat.reduceAdd, Nat.reduceSub, Nat.reduceMul, Int32.reduceLT, Int32.reduceLE, Int32.reduceAdd, Int32.reduceMul, Int32.reduceSub, Int32.reduceToNatClampNeg, and_self, or_self, and_false, false_and, not_true_eq_false, not_false_eq_true, k0, K37 SG, R37_24 SG, K48 SG, zix_nI (show k < 5 by omega) (by decide), e, z48, z2]
    | succ i ih2 =>
      intro t G ht I e
      obtain ⟨P, i1, i2, i3⟩ := I
      have SG := P.St S
      have TG := P.IvT T
      have hN8 := T.1
      have k0 : ¬ nI k < 0 := nI_pos (by omega)
      have S1 : St (zwI G 48 k (nI t)) := SG
      have z48 : zi (zwI G 48 k (nI t)) 48 k = nI t := by rw [zi_wI, if_pos ⟨rfl, rfl⟩]
      have z2 : zi (zwI G 48 k (nI t)) 37 2 = nI N := by rw [zi_wI, if_neg (by omega)]; exact TG.2.2.1
      have tN : (nI t = nI N) = (t = N) := nI_eqI' (by omega) (by omega)
      have tN' : ¬ t = N := by omega
      have en : nI n - 1 = nI (k + 1 + m) := by rw [show n = k + 1 + m + 1 by omega]; exact nI_pred _
      have ek : (nI k = nI (k + 1 + m)) = (k = k + 1 + m) := nI_eqI' (by omega) (by omega)
      have ek' : ¬ k = k + 1 + m := by omega
      have cu := fun d => c_isUsed (d := d) S1 (show k ≤ 5 by omega) (show t < 8 by omega) (r := r) (fun x hx => ⟨by rw [zi_wI, if_neg (by omega)]; exact i3 x hx, hr x hx⟩)
      have J : ∀ b, b = nf (fun t b => if usd r k t = true then b else nv (mT h) (0, kn, 0, 0, 0, 0) N (m + 1) (k + 1) (up r k t) b) t b0 → NM h (zwI G 48 k (nI t)) n (k + 1) (up r k t) b := fun b hb => by
        subst hb
        refine ⟨P.w (by simp [zscr]), by rw [zi_wI, if_neg (by omega)]; exact i1, fun q hq => ⟨(i2 q hq).1, fun x hx => by rw [zi_wI, if_neg (by omega)]; exact (i2 q hq).2 x hx⟩, fun x hx => ?_⟩
        by_cases ex : x = k
        · rw [ex, up_eq]; exact z48
        · rw [zi_wI, if_neg (by omega), up_lt (by omega)]; exact i3 x (by omega)
      by_cases u : usd r k t = true
      · obtain ⟨G', c1, c2⟩ := ih2 (t + 1) (zwI G 48 k (nI t)) (by omega) (by
          rw [nf, if_pos u]
          have := J _ rfl
          exact ⟨this.1, this.2.1, this.2.2.1, fun x hx => by rw [this.2.2.2 x (by omega), up_lt hx]⟩) (by rw [z48]; exact nI_1 t)
        refine ⟨G', Eq.trans ?_ c1, c2⟩
        rw [u_X11_seekNever_14]
        simp +decide only [u_X11_seekNever_0, u_X11_seekNever_1, u_X11_seekNever_2, u_X11_seekNever_5, u_X11_seekNever_6, u_X11_seekNever_7, u_X11_seekNever_8, u_X11_seekNever_11, u_X11_seekNever_12, u_X11_seekNever_13, u_X11_seekNever_15, u_X11_seekNever_18, u_X11_seekNever_19, u_X11_seekNever_22, u_X11_seekNever_23, u_X11_seekNever_24, u_X11_seekNever_25, u_X11_seekNever_26, u_X11_seekNever_27, u_X11_seekNever_28, u_X11_seekNever_29, u_X11_seekNever_32, u_X11_seekNever_33, u_X11_seekNever_34, u_X11_seekNever_35, u_X11_seekNever_38, u_X11_seekNever_41, u_X11_seekNever_44, u_X11_seekNever_47, u_X11_seekNever_48, u_X11_seekNever_49, u_X11_seekNever_50, u_X11_seekNever_53, u_X11_seekNever_54, u_X11_seekNever_55, u_X11_seekNever_58, u_X11_seekNever_61, u_X11_seekNever_62, u_X11_seekNever_63, u_X11_seekNever_64, u_X11_seekNever_65, u_X11_seekNever_68, u_X11_seekNever_69, u_X11_seekNever_70, u_X11_seekNever_73, u_X11_seekNever_76, u_X11_seekNever_79, u_X11_seekNever_80, u_X11_seekNever_83, u_X11_seekNever_84, u_X11_seekNever_85, u_X11_seekNever_86, u_X11_seekNever_89, zcl_i, zcl_r, zcl_l, zcl_0, Option.bind_some, Option.bind_none, Option.toList_some, Option.toList_none, List.cons_append, List.nil_append, zk_wI, zk_wR, zk_wC, zr_wI, zr_wC, zi_wR, zn_wI, zn_wR, zn_wC, if_true, if_false, true_or, or_true, or_false, false_or, true_and, and_true, ↓reduceIte, reduceCtorEq, Nat.reduceEqDiff, Nat.reduceLT, Nat.reduceLeDiff, Nat.reduceAdd, Nat.reduceSub, Nat.reduceMul, Int32.reduceLT, Int32.reduceLE, Int32.reduceAdd, Int32.reduceMul, Int32.reduceSub, Int32.reduceToNatClampNeg, and_self, or_self, and_false, false_and, not_true_eq_false, not_false_eq_true, k0, K37 SG, R37_24 SG, K48 SG, zix_nI (show k < 5 by omega) (by decide), e, z48, z2, tN, tN', cu, u]
      · have J1 := J _ rfl
        have J2 : NM h (zwI (zwI G 48 k (nI t)) 48 (k + 1) (-1)) n (k + 1) (up r k t) (nf (fun t b => if usd r k t = true then b else nv (mT h) (0, kn, 0, 0, 0, 0) N (m + 1) (k + 1) (up r k t) b) t b0) :=
          ⟨J1.1.w (by simp [zscr]), by rw [zi_wI, if_neg (by omega)]; exact J1.2.1, fun q hq => ⟨(J1.2.2.1 q hq).1, fun x hx => by rw [zi_wI, if_neg (by omega)]; exact (J1.2.2.1 q hq).2 x hx⟩, fun x hx => by rw [zi_wI, if_neg (by omega)]; exact J1.2.2.2 x hx⟩
        obtain ⟨G2, l1, l2⟩ := ih (k + 1) (by omega) (up r k t) _ (fun x hx => by
          by_cases ex : x = k
          · rw [ex, up_eq]; omega
          · rw [up_lt (by omega)]; exact hr x (by omega)) N 0 (zwI (zwI G 48 k (nI t)) 48 (k + 1) (-1)) (by omega) J2 (by rw [zi_wI, if_pos ⟨rfl, rfl⟩]; decide)
        rw [pk_m1] at l1
        obtain ⟨G', c1, c2⟩ := ih2 (t + 1) G2 (by omega) (by
          rw [nf, if_neg u, nv]
          exact ⟨l2.1, l2.2.1, l2.2.2.1, fun x hx => by rw [l2.2.2.2 x (by omega), up_lt hx]⟩) (by rw [l2.2.2.2 k (by omega), up_eq]; exact nI_1 t)
        refine ⟨G', Eq.trans ?_ (l1.trans c1), c2⟩
        rw [u_X11_seekNever_14]
        simp +decide only [u_X11_seekNever_0, u_X11_seekNever_1, u_X11_seekNever_2, u_X11_seekNever_5, u_X11_seekNever_6, u_X11_seekNever_7, u_X11_seekNever_8, u_X11_seekNever_11, u_X11_seekNever_12, u_X11_seekNever_13, u_X11_seekNever_15, u_X11_seekNever_18, u_X11_seekNever_19, u_X11_seekNever_22, u_X11_seekNever_23, u_X11_seekNever_24, u_X11_seekNever_25, u_X11_seekNever_26, u_X11_seekNever_27, u_X11_seekNever_28, u_X11_seekNever_29, u_X11_seekNever_32, u_X11_seekNever_33, u_X11_seekNever_34, u_X11_seekNever_35, u_X11_seekNever_38, u_X11_seekNever_41, u_X11_seekNever_44, u_X11_seekNever_47, u_X11_seekNever_48, u_X11_seekNever_49, u_X11_seekNever_50, u_X11_seekNever_53, u_X11_seekNever_54, u_X11_seekNever_55, u_X11_seekNever_58, u_X11_seekNever_61, u_X11_seekNever_62, u_X11_seekNever_63, u_X11_seekNever_64, u_X11_seekNever_65, u_X11_seekNever_68, u_X11_seekNever_69, u_X11_seekNever_70, u_X11_seekNever_73, u_X11_seekNever_76, u_X11_seekNever_79, u_X11_seekNever_80, u_X11_seekNever_83, u_X11_seekNever_84, u_X11_seekNever_85, u_X11_seekNever_86, u_X11_seekNever_89, zcl_i, zcl_r, zcl_l, zcl_0, Option.bind_some, Option.bind_none, Option.toList_some, Option.toList_none, List.cons_append, List.nil_append, zk_wI, zk_wR, zk_wC, zr_wI, zr_wC, zi_wR, zn_wI, zn_wR, zn_wC, if_true, if_false, true_or, or_true, or_false, false_or, true_and, and_true, ↓reduceIte, reduceCtorEq, Nat.reduceEqDiff, Nat.reduceLT, Nat.reduceLeDiff, Nat.reduceAdd, Nat.reduceSub, Nat.reduceMul, Int32.reduceLT, Int32.reduceLE, Int32.reduceAdd, Int32.reduceMul, Int32.reduceSub, Int32.reduceToNatClampNeg, and_self, or_self, and_false, false_and, not_true_eq_false, not_false_eq_true, k0, K37 SG, R37_24 SG, K48 SG, zix_nI (show k < 5 by omega) (by decide), zix_nI (show k + 1 < 5 by omega) (by decide), e, z48, z2, tN, tN', cu, u, en, ek, ek', nI_1]
