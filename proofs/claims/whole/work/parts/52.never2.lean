/-! never: the class's search -/
def mfC (b : Bst) : Int32 := match b with
  | none => -9
  | some q => nI q.1
def NI (h H : zH) (n k : Nat) (r : Nat → Nat) (b : Bst) : Prop := Pres h H ∧ zi H 12 4 = nI n ∧ zi H 12 0 = mfC b ∧ (∀ q, b = some q → q.1 ≤ n ∧ ∀ x, x < n → zi H 13 x = nI (q.2 x)) ∧ ∀ x, x < k → zi H 14 x = nI (r x)
theorem Pres.wC {h h' : zH} (p : Pres h h') {a sp b dp n : Nat} (hs : ∀ j, zscr b j = true) : Pres h (zwC h' a sp b dp n) :=
  ⟨p.1, p.2.1, p.2.2.1, p.2.2.2.1, fun x y hx => by
    rw [zi_wC, if_neg]
    · exact p.2.2.2.2 x y hx
    · rintro ⟨rfl, -⟩
      rw [hs] at hx
      cases hx⟩
theorem bt_mfC {b : Bst} {f n : Nat} (hb : ∀ q, b = some q → q.1 ≤ n) (hn : n ≤ 5) (hf : f < 100) : (mfC b < nI f) = (bt b f = true) := by
  cases b with
  | none =>
    have : (-9 : Int32) < nI f := by
      rw [Int32.lt_iff_toInt_lt, nI_toInt (by omega)]
      have : (-9 : Int32).toInt = -9 := by decide
      omega
    simp [mfC, bt, this]
  | some q =>
    have := hb q rfl
    show (nI q.1 < nI f) = _
    rw [nI_ltI' (by omega) (by omega)]
    simp [bt]
theorem c_goOn {h : zH} (S : St h) {N n : Nat} (T : IvT h N) (hn : n ≤ 5) {s0 : zNt} (F0 : Fl s0 0) : ∀ (m k : Nat), k + m = n → ∀ (D : Nat) (H : zH) (r : Nat → Nat) (b : Bst) (x : Nat), 2 * m + 6 ≤ D → NI h H n k r b → isN H (16 + k) (oP (mT h) r k s0) (zi h 37 1) (zi h 37 9) → (oP (mT h) r k s0).2.2.2.2.2 = 0 → Tld r k x → ∃ H', zcall (zP zM) D 17 [.inr (.inr (some 12)), .inr (.inr (some 2)), .inl (nI k), .inl (nI x)] H = some (none, H') ∧ NI h H' n k r (nv (mT h) s0 N m k r b) ∧ ∀ i, i ≤ k → ∀ y, zi H' (16 + i) y = zi H (16 + i) y := by
  intro m
  induction m with
  | zero =>
    intro k hk D H r b x hD I Nt hc tl
    obtain ⟨e, rfl⟩ : ∃ e, D = e + 6 := ⟨D - 6, by omega⟩
    have e0 : k = n := by omega
    subst e0
    obtain ⟨P, i1, i2, i3, i4⟩ := I
    have SH := P.St S
    obtain ⟨f, f1, f2⟩ := Fl_oP (h := h) (r := r) F0 k
    have fc : zi H (16 + k) 1 = nI f := Nt.2.2.2.2.1.trans f2
    have k0 : ¬ nI k < 0 := nI_pos (by omega)
    have ec : nI f + nI k - nI k = nI f := by rw [nI_add, pk_sub (by omega), Nat.add_sub_cancel]
    have hb : ∀ q, b = some q → q.1 ≤ k := fun q hq => (i3 q hq).1
    have em := bt_mfC hb hn (show f < 100 by omega)
    rw [e_X3_goOn, nv, nlook, Fl_flN f2 (by omega)]
    by_cases g : bt b f = true
    · refine ⟨zwC (zwI H 12 0 (nI f)) 14 0 13 0 k, ?_, ?_, fun i hi y => ?_⟩
      · have cl : (nI k).toNatClampNeg = k := nI_clamp (by omega)
        have c0 : (0 : Int32).toNatClampNeg = 0 := by decide
        have k5 : k ≤ 5 := hn
        have i1' : ∀ v, zi (zwI H 12 0 v) 12 4 = nI k := fun v => by rw [zi_wI, if_neg (by omega)]; exact i1
        simp +decide only [u_X3_goOn_0, u_X3_goOn_1, u_X3_goOn_4, u_X3_goOn_5, u_X3_goOn_6, u_X3_goOn_9, u_X3_goOn_12, u_X3_goOn_13, u_X3_goOn_14, u_X3_goOn_17, u_X3_goOn_18, u_X3_goOn_19, u_X3_goOn_21, u_X3_goOn_23, u_X3_goOn_26, u_X3_goOn_27, u_X3_goOn_30, u_X3_goOn_31, u_X3_goOn_32, u_X3_goOn_33, u_X3_goOn_34, u_X3_goOn_37, u_X3_goOn_40, u_X3_goOn_41, u_X3_goOn_42, u_X3_goOn_43, u_X3_goOn_46, u_X3_goOn_49, u_X3_goOn_50, u_X3_goOn_52, u_X3_goOn_55, u_X3_goOn_58, u_X3_goOn_59, u_X3_goOn_62, u_X3_goOn_63, u_X3_goOn_64, u_X3_goOn_67, u_X3_goOn_68, u_X3_goOn_69, u_X3_goOn_72, u_X3_goOn_75, u_X3_goOn_76, u_X3_goOn_77, u_X3_goOn_81, u_X3_goOn_82, u_X3_goOn_85, u_X3_goOn_88, u_X3_goOn_89, u_X3_goOn_91, u_X3_goOn_94, u_X3_goOn_97, u_X3_goOn_98, u_X3_goOn_99, u_X3_goOn_100, u_X3_goOn_101, u_X3_goOn_103, u_X3_goOn_106, u_X3_goOn_109, u_X3_goOn_112, zcl_i, zcl_r, zcl_l, zcl_0, Option.bind_some, Option.bind_none, Option.toList_some, Option.toList_none, List.cons_append, List.nil_append, zk_wI, zk_wR, zk_wC, zr_wI, zr_wC, zi_wR, zn_wI, zn_wR, zn_wC, if_true, if_false, true_or, or_true, or_false, false_or, true_and, and_true, ↓reduceIte, reduceCtorEq, Nat.reduceEqDiff, Nat.reduceLT, Nat.reduceLeDiff, Nat.reduceAdd, Nat.reduceSub, Nat.reduceMul, Int32.reduceLT, Int32.reduceLE, Int32.reduceAdd, Int32.reduceMul, Int32.reduceSub, Int32.reduceToNatClampNeg, and_self, or_self, and_false, false_and, not_true_eq_false, not_false_eq_true, k0, K12 SH, i1, i1', nI_ltI' (show k < 2 ^ 31 by omega) (show k < 2 ^ 31 by omega), Nat.lt_irrefl, R12_3 SH, K15 SH, zix_nI (show k < 6 by omega) (by decide), (K15x SH (show k < 6 by omega)).2, (K15x SH (show k < 6 by omega)).1, fc, ec, i2, em, g, R12_2 SH, R12_1 SH, K13 SH, K14 SH, cl, c0, Nat.zero_add, k5]
      · rw [if_pos ⟨hc, g⟩]
        refine ⟨(P.w (by decide)).wC (fun j => by simp [zscr]), ?_, ?_, fun q hq => ?_, fun y hy => ?_⟩
        · rw [zi_wC, if_neg (by omega), zi_wI, if_neg (by omega)]; exact i1
        · rw [zi_wC, if_neg (by omega), zi_wI, if_pos ⟨rfl, rfl⟩]; rfl
        · cases hq
          refine ⟨f1, fun y hy => ?_⟩
          rw [zi_wC, if_pos (by omega), zi_wI, if_neg (by omega), Nat.zero_add, Nat.sub_zero]
          exact i4 y hy
        · rw [zi_wC, if_neg (by omega), zi_wI, if_neg (by omega)]; exact i4 y hy
      · rw [zi_wC, if_neg (by omega), zi_wI, if_neg (by omega)]
    · refine ⟨H, ?_, ?_, fun _ _ _ => rfl⟩
      · simp +decide only [u_X3_goOn_0, u_X3_goOn_1, u_X3_goOn_4, u_X3_goOn_5, u_X3_goOn_6, u_X3_goOn_9, u_X3_goOn_12, u_X3_goOn_13, u_X3_goOn_14, u_X3_goOn_17, u_X3_goOn_18, u_X3_goOn_19, u_X3_goOn_21, u_X3_goOn_23, u_X3_goOn_26, u_X3_goOn_27, u_X3_goOn_30, u_X3_goOn_31, u_X3_goOn_32, u_X3_goOn_33, u_X3_goOn_34, u_X3_goOn_37, u_X3_goOn_40, u_X3_goOn_41, u_X3_goOn_42, u_X3_goOn_43, u_X3_goOn_46, u_X3_goOn_49, u_X3_goOn_50, u_X3_goOn_52, u_X3_goOn_55, u_X3_goOn_58, u_X3_goOn_59, u_X3_goOn_62, u_X3_goOn_63, u_X3_goOn_64, u_X3_goOn_67, u_X3_goOn_68, u_X3_goOn_69, u_X3_goOn_72, u_X3_goOn_75, u_X3_goOn_76, u_X3_goOn_77, u_X3_goOn_81, u_X3_goOn_82, u_X3_goOn_85, u_X3_goOn_88, u_X3_goOn_89, u_X3_goOn_91, u_X3_goOn_94, u_X3_goOn_97, u_X3_goOn_98, u_X3_goOn_99, u_X3_goOn_100, u_X3_goOn_101, u_X3_goOn_103, u_X3_goOn_106, u_X3_goOn_109, u_X3_goOn_112, zcl_i, zcl_r, zcl_l, zcl_0, Option.bind_some, Option.bind_none, Option.toList_some, Option.toList_none, List.cons_append, List.nil_append, zk_wI, zk_wR, zk_wC, zr_wI, zr_wC, zi_wR, zn_wI, zn_wR, zn_wC, if_true, if_false, true_or, or_true, or_false, false_or, true_and, and_true, ↓reduceIte, reduceCtorEq, Nat.reduceEqDiff, Nat.reduceLT, Nat.reduceLeDiff, Nat.reduceAdd, Nat.reduceSub, Nat.reduceMul, Int32.reduceLT, Int32.reduceLE, Int32.reduceAdd, Int32.reduceMul, Int32.reduceSub, Int32.reduceToNatClampNeg, and_self, or_self, and_false, false_and, not_true_eq_false, not_false_eq_true, k0, K12 SH, i1, nI_ltI' (show k < 2 ^ 31 by omega) (show k < 2 ^ 31 by omega), Nat.lt_irrefl, R12_3 SH, K15 SH, zix_nI (show k < 6 by omega) (by decide), (K15x SH (show k < 6 by omega)).2, (K15x SH (show k < 6 by omega)).1, fc, ec, i2, em, g]
      · rw [if_neg (fun z => g z.2)]
        exact ⟨P, i1, i2, i3, i4⟩
  | succ m ih =>
    intro k hk D H0 r b x hD I Nt hc tl
    obtain ⟨e, rfl⟩ : ∃ e, D = e + 6 := ⟨D - 6, by omega⟩
    have I0 := I
    obtain ⟨P, i1, i2, i3, i4⟩ := I
    have SH := P.St S
    obtain ⟨f, f1, f2⟩ := Fl_oP (h := h) (r := r) F0 k
    have fc : zi H0 (16 + k) 1 = nI f := Nt.2.2.2.2.1.trans f2
    have k0 : ¬ nI k < 0 := nI_pos (by omega)
    have kn : ¬ nI n < nI k := nI_nlt (by omega) (by omega)
    have kne : (nI k = nI n) = (k = n) := nI_eqI' (by omega) (by omega)
    have kne' : ¬ k = n := by omega
    have klt : (nI k < nI n) = (k < n) := nI_ltI' (by omega) (by omega)
    have klt' : k < n := by omega
    have ec : nI f + nI n - nI k = nI (f + (m + 1)) := by rw [nI_add, pk_sub (by omega)]; congr 1; omega
    have hb : ∀ q, b = some q → q.1 ≤ n := fun q hq => (i3 q hq).1
    have em := bt_mfC hb hn (show f + (m + 1) < 100 by omega)
    rw [e_X3_goOn]
    by_cases g : bt b (f + (m + 1)) = true
    · have loop : ∀ (i t : Nat) (H : zH), t + i = N → NI h H n k r (nf (fun t b => if usd r k t = true then b else nv (mT h) s0 N m (k + 1) (up r k t) b) t b) → (∀ i, i ≤ k → ∀ y, zi H (16 + i) y = zi H0 (16 + i) y) → ∃ H', zX (e + 5) tb_X3_goOn 79 [some (.inr (.inr (some 12))), some (.inr (.inr (some 2))), some (.inl (nI k)), some (.inl (nI x)), some (.inr (.inr (some (16 + k)))), some (.inl (nI t))] [] H = some (none, H') ∧ NI h H' n k r (nf (fun t b => if usd r k t = true then b else nv (mT h) s0 N m (k + 1) (up r k t) b) N b) ∧ ∀ i, i ≤ k → ∀ y, zi H' (16 + i) y = zi H0 (16 + i) y := by
        intro i
        induction i with
        | zero =>
          intro t H ht J Q
          have et : t = N := by omega
          subst et
          have SH := J.1.St S
          have TH := J.1.IvT T
          refine ⟨H, ?_, J, Q⟩
          simp +decide only [u_X3_goOn_0, u_X3_goOn_1, u_X3_goOn_4, u_X3_goOn_5, u_X3_goOn_6, u_X3_goOn_9, u_X3_goOn_12, u_X3_goOn_13, u_X3_goOn_14, u_X3_goOn_17, u_X3_goOn_18, u_X3_goOn_19, u_X3_goOn_21, u_X3_goOn_23, u_X3_goOn_26, u_X3_goOn_27, u_X3_goOn_30, u_X3_goOn_31, u_X3_goOn_32, u_X3_goOn_33, u_X3_goOn_34, u_X3_goOn_37, u_X3_goOn_40, u_X3_goOn_41, u_X3_goOn_42, u_X3_goOn_43, u_X3_goOn_46, u_X3_goOn_49, u_X3_goOn_50, u_X3_goOn_52, u_X3_goOn_55, u_X3_goOn_58, u_X3_goOn_59, u_X3_goOn_62, u_X3_goOn_63, u_X3_goOn_64, u_X3_goOn_67, u_X3_goOn_68, u_X3_goOn_69, u_X3_goOn_72, u_X3_goOn_75, u_X3_goOn_76, u_X3_goOn_77, u_X3_goOn_79, u_X3_goOn_81, u_X3_goOn_82, u_X3_goOn_85, u_X3_goOn_88, u_X3_goOn_89, u_X3_goOn_91, u_X3_goOn_94, u_X3_goOn_97, u_X3_goOn_98, u_X3_goOn_99, u_X3_goOn_100, u_X3_goOn_101, u_X3_goOn_103, u_X3_goOn_106, u_X3_goOn_109, u_X3_goOn_112, zcl_i, zcl_r, zcl_l, zcl_0, Option.bind_some, Option.bind_none, Option.toList_some, Option.toList_none, List.cons_append, List.nil_append, zk_wI, zk_wR, zk_wC, zr_wI, zr_wC, zi_wR, zn_wI, zn_wR, zn_wC, if_true, if_false, true_or, or_true, or_false, false_or, true_and, and_true, ↓reduceIte, reduceCtorEq, Nat.reduceEqDiff, Nat.reduceLT, Nat.reduceLeDiff, Nat.reduceAdd, Nat.reduceSub, Nat.reduceMul, Int32.reduceLT, Int32.reduceLE, Int32.reduceAdd, Int32.reduceMul, Int32.reduceSub, Int32.reduceToNatClampNeg, and_self, or_self, and_false, false_and, not_true_eq_false, not_false_eq_true, K2 SH, TH.2.1, nI_ltI' (show t < 2 ^ 31 by have := T.1; omega) (show t < 2 ^ 31 by have := T.1; omega), Nat.lt_irrefl]
        | succ i ih2 =>
          intro t H ht J Q
          have hN8 := T.1
          have htN : t < N := by omega
          have SH := J.1.St S
          have TH := J.1.IvT T
          have tb := Tld_bit tl (show t < 8 by omega)
          have lt : (nI t < nI N) = (t < N) := nI_ltI' (by omega) (by omega)
          by_cases u : usd r k t = true
          · obtain ⟨H', c1, c2⟩ := ih2 (t + 1) H (by omega) (by rw [nf, if_pos u]; exact J) Q
            refine ⟨H', Eq.trans ?_ c1, c2⟩
            rw [u_X3_goOn_79]
            simp +decide only [u_X3_goOn_0, u_X3_goOn_1, u_X3_goOn_4, u_X3_goOn_5, u_X3_goOn_6, u_X3_goOn_9, u_X3_goOn_12, u_X3_goOn_13, u_X3_goOn_14, u_X3_goOn_17, u_X3_goOn_18, u_X3_goOn_19, u_X3_goOn_21, u_X3_goOn_23, u_X3_goOn_26, u_X3_goOn_27, u_X3_goOn_30, u_X3_goOn_31, u_X3_goOn_32, u_X3_goOn_33, u_X3_goOn_34, u_X3_goOn_37, u_X3_goOn_40, u_X3_goOn_41, u_X3_goOn_42, u_X3_goOn_43, u_X3_goOn_46, u_X3_goOn_49, u_X3_goOn_50, u_X3_goOn_52, u_X3_goOn_55, u_X3_goOn_58, u_X3_goOn_59, u_X3_goOn_62, u_X3_goOn_63, u_X3_goOn_64, u_X3_goOn_67, u_X3_goOn_68, u_X3_goOn_69, u_X3_goOn_72, u_X3_goOn_75, u_X3_goOn_76, u_X3_goOn_77, u_X3_goOn_81, u_X3_goOn_82, u_X3_goOn_85, u_X3_goOn_88, u_X3_goOn_89, u_X3_goOn_91, u_X3_goOn_94, u_X3_goOn_97, u_X3_goOn_98, u_X3_goOn_99, u_X3_goOn_100, u_X3_goOn_101, u_X3_goOn_103, u_X3_goOn_106, u_X3_goOn_109, u_X3_goOn_112, zcl_i, zcl_r, zcl_l, zcl_0, Option.bind_some, Option.bind_none, Option.toList_some, Option.toList_none, List.cons_append, List.nil_append, zk_wI, zk_wR, zk_wC, zr_wI, zr_wC, zi_wR, zn_wI, zn_wR, zn_wC, if_true, if_false, true_or, or_true, or_false, false_or, true_and, and_true, ↓reduceIte, reduceCtorEq, Nat.reduceEqDiff, Nat.reduceLT, Nat.reduceLeDiff, Nat.reduceAdd, Nat.reduceSub, Nat.reduceMul, Int32.reduceLT, Int32.reduceLE, Int32.reduceAdd, Int32.reduceMul, Int32.reduceSub, Int32.reduceToNatClampNeg, and_self, or_self, and_false, false_and, not_true_eq_false, not_false_eq_true, K2 SH, TH.2.1, lt, htN, c_has, tb, u, nI_1]
          · have NtH := isN_of Nt (Q k (Nat.le_refl k))
            have hc01 : (oP (mT h) r k s0).2.2.2.2.2 = 0 ∨ (oP (mT h) r k s0).2.2.2.2.2 = 1 := Or.inl hc
            obtain ⟨ka, ra⟩ := K15x SH (show k + 1 < 6 by omega)
            obtain ⟨kb, rb⟩ := K15x SH (show k < 6 by omega)
            have tk := fun d => c_takeUp (d := d) ka kb (show 16 + (k + 1) ≠ 16 + k by omega) NtH hc01
            have he := fun d => c_hearT (d := d) SH TH htN ka (show 16 + (k + 1) < 64 by omega) (s := oP (mT h) r k s0)
            rw [mT_P J.1, J.1.2.2.2.2 37 1 (zscr_no (by omega)), J.1.2.2.2.2 37 9 (zscr_no (by omega)), ← oP_up (T := mT h) (r := r) (k := k) (t := t)] at he
            have S1 : ∀ s sp bl, St (cN H (16 + (k + 1)) s sp bl) := fun _ _ _ => SH
            have hc1 : ∀ s sp bl, zi (cN H (16 + (k + 1)) s sp bl) 2 1 = nI N := fun s sp bl => (zi_cN (by omega)).trans TH.2.1
            have u0 : (if usd r k t = true then (1 : Int32) else 0) = 0 := if_neg u
            have P2 : ∀ s sp bl, Pres h (cN H (16 + (k + 1)) s sp bl) := fun s sp bl => J.1.cN (by omega)
            have Q2 : ∀ s sp bl, ∀ i, i ≤ k → ∀ y, zi (cN H (16 + (k + 1)) s sp bl) (16 + i) y = zi H (16 + i) y := fun s sp bl i hi y => zi_cN (by omega)
            by_cases cm : (oP (mT h) (up r k t) (k + 1) s0).2.2.2.2.2 = 0
            · have J3 : NI h (zwI (cN H (16 + (k + 1)) (oP (mT h) (up r k t) (k + 1) s0) (zi h 37 1) (zi h 37 9)) 14 k (nI t)) n (k + 1) (up r k t) (nf (fun t b => if usd r k t = true then b else nv (mT h) s0 N m (k + 1) (up r k t) b) t b) := by
                refine ⟨(P2 _ _ _).w (by simp [zscr]), ?_, ?_, fun q hq => ⟨(J.2.2.2.1 q hq).1, fun y hy => ?_⟩, fun y hy => ?_⟩
                · rw [zi_wI, if_neg (by omega), zi_cN (by omega)]; exact J.2.1
                · rw [zi_wI, if_neg (by omega), zi_cN (by omega)]; exact J.2.2.1
                · rw [zi_wI, if_neg (by omega), zi_cN (by omega)]; exact (J.2.2.2.1 q hq).2 y hy
                · by_cases ey : y = k
                  · rw [ey, zi_wI, if_pos ⟨rfl, rfl⟩, up_eq]
                  · rw [zi_wI, if_neg (by omega), zi_cN (by omega), up_lt (by omega)]; exact J.2.2.2.2 y (by omega)
              have N3 : isN (zwI (cN H (16 + (k + 1)) (oP (mT h) (up r k t) (k + 1) s0) (zi h 37 1) (zi h 37 9)) 14 k (nI t)) (16 + (k + 1)) (oP (mT h) (up r k t) (k + 1) s0) (zi h 37 1) (zi h 37 9) := isN_of isN_cN (fun y => by rw [zi_wI, if_neg (by omega)])
              obtain ⟨H4, d1, d2, d3⟩ := ih (k + 1) (by omega) (e + 4) _ (up r k t) _ (x ||| 2 ^ t) (by omega) J3 N3 cm (Tld_up tl (by omega))
              have J4 : NI h H4 n k r (nf (fun t b => if usd r k t = true then b else nv (mT h) s0 N m (k + 1) (up r k t) b) (t + 1) b) := by
                rw [nf, if_neg u]
                exact ⟨d2.1, d2.2.1, d2.2.2.1, d2.2.2.2.1, fun y hy => by rw [d2.2.2.2.2 y (by omega), up_lt hy]⟩
              obtain ⟨H', c1, c2⟩ := ih2 (t + 1) H4 (by omega) J4 (fun i hi y => by rw [d3 i (by omega) y, zi_wI, if_neg (by omega), Q2 _ _ _ i hi y]; exact Q i hi y)
              have tn : zcall (zP zM) (e + 5) 18 [.inr (.inr (some 12)), .inr (.inr (some 2)), .inl (nI k), .inl (nI x), .inl (nI t)] H = some (none, H4) := by
                rw [e_X3_tellNext]
                simp +decide only [u_X3_tellNext_0, u_X3_tellNext_1, u_X3_tellNext_4, u_X3_tellNext_5, u_X3_tellNext_6, u_X3_tellNext_9, u_X3_tellNext_12, u_X3_tellNext_13, u_X3_tellNext_14, u_X3_tellNext_17, u_X3_tellNext_18, u_X3_tellNext_19, u_X3_tellNext_20, u_X3_tellNext_21, u_X3_tellNext_23, u_X3_tellNext_25, u_X3_tellNext_26, u_X3_tellNext_29, u_X3_tellNext_30, u_X3_tellNext_31, u_X3_tellNext_34, u_X3_tellNext_36, u_X3_tellNext_37, u_X3_tellNext_39, u_X3_tellNext_42, u_X3_tellNext_43, u_X3_tellNext_46, u_X3_tellNext_48, u_X3_tellNext_51, u_X3_tellNext_54, u_X3_tellNext_55, u_X3_tellNext_56, u_X3_tellNext_59, u_X3_tellNext_60, u_X3_tellNext_62, u_X3_tellNext_63, u_X3_tellNext_64, u_X3_tellNext_65, u_X3_tellNext_66, u_X3_tellNext_67, u_X3_tellNext_68, u_X3_tellNext_69, u_X3_tellNext_70, u_X3_tellNext_72, u_X3_tellNext_73, u_X3_tellNext_74, u_X3_tellNext_77, zcl_i, zcl_r, zcl_l, zcl_0, Option.bind_some, Option.bind_none, Option.toList_some, Option.toList_none, List.cons_append, List.nil_append, zk_wI, zk_wR, zk_wC, zr_wI, zr_wC, zi_wR, zn_wI, zn_wR, zn_wC, if_true, if_false, true_or, or_true, or_false, false_or, true_and, and_true, ↓reduceIte, reduceCtorEq, Nat.reduceEqDiff, Nat.reduceLT, Nat.reduceLeDiff, Nat.reduceAdd, Nat.reduceSub, Nat.reduceMul, Int32.reduceLT, Int32.reduceLE, Int32.reduceAdd, Int32.reduceMul, Int32.reduceSub, Int32.reduceToNatClampNeg, and_self, or_self, and_false, false_and, not_true_eq_false, not_false_eq_true, zk_cN, zr_cN, k0, klt, klt', J.2.1, K2 SH, K12 SH, R12_3 SH, K15 SH, nI_1, zix_nI (show k + 1 < 6 by omega) (by decide), zix_nI (show k < 6 by omega) (by decide), ra, rb, ka, tk, c_taleAt (S1 _ _ _) (hc1 _ _ _) hN8 htN, he, zi_cN4, cm, R12_2 SH, K14 SH, zix_nI (show k < 5 by omega) (by decide), sh1 t (by omega), nI_or, d1]
              refine ⟨H', Eq.trans ?_ c1, c2⟩
              rw [u_X3_goOn_79]
              simp +decide only [u_X3_goOn_0, u_X3_goOn_1, u_X3_goOn_4, u_X3_goOn_5, u_X3_goOn_6, u_X3_goOn_9, u_X3_goOn_12, u_X3_goOn_13, u_X3_goOn_14, u_X3_goOn_17, u_X3_goOn_18, u_X3_goOn_19, u_X3_goOn_21, u_X3_goOn_23, u_X3_goOn_26, u_X3_goOn_27, u_X3_goOn_30, u_X3_goOn_31, u_X3_goOn_32, u_X3_goOn_33, u_X3_goOn_34, u_X3_goOn_37, u_X3_goOn_40, u_X3_goOn_41, u_X3_goOn_42, u_X3_goOn_43, u_X3_goOn_46, u_X3_goOn_49, u_X3_goOn_50, u_X3_goOn_52, u_X3_goOn_55, u_X3_goOn_58, u_X3_goOn_59, u_X3_goOn_62, u_X3_goOn_63, u_X3_goOn_64, u_X3_goOn_67, u_X3_goOn_68, u_X3_goOn_69, u_X3_goOn_72, u_X3_goOn_75, u_X3_goOn_76, u_X3_goOn_77, u_X3_goOn_81, u_X3_goOn_82, u_X3_goOn_85, u_X3_goOn_88, u_X3_goOn_89, u_X3_goOn_91, u_X3_goOn_94, u_X3_goOn_97, u_X3_goOn_98, u_X3_goOn_99, u_X3_goOn_100, u_X3_goOn_101, u_X3_goOn_103, u_X3_goOn_106, u_X3_goOn_109, u_X3_goOn_112, zcl_i, zcl_r, zcl_l, zcl_0, Option.bind_some, Option.bind_none, Option.toList_some, Option.toList_none, List.cons_append, List.nil_append, zk_wI, zk_wR, zk_wC, zr_wI, zr_wC, zi_wR, zn_wI, zn_wR, zn_wC, if_true, if_false, true_or, or_true, or_false, false_or, true_and, and_true, ↓reduceIte, reduceCtorEq, Nat.reduceEqDiff, Nat.reduceLT, Nat.reduceLeDiff, Nat.reduceAdd, Nat.reduceSub, Nat.reduceMul, Int32.reduceLT, Int32.reduceLE, Int32.reduceAdd, Int32.reduceMul, Int32.reduceSub, Int32.reduceToNatClampNeg, and_self, or_self, and_false, false_and, not_true_eq_false, not_false_eq_true, K2 SH, TH.2.1, lt, htN, c_has, tb, u0, K12 SH, tn, nI_1]
            · obtain ⟨H', c1, c2⟩ := ih2 (t + 1) (cN H (16 + (k + 1)) (oP (mT h) (up r k t) (k + 1) s0) (zi h 37 1) (zi h 37 9)) (by omega) (by
                rw [nf, if_neg u, nv_come cm]
                exact ⟨P2 _ _ _, by rw [zi_cN (by omega)]; exact J.2.1, by rw [zi_cN (by omega)]; exact J.2.2.1, fun q hq => ⟨(J.2.2.2.1 q hq).1, fun y hy => by rw [zi_cN (by omega)]; exact (J.2.2.2.1 q hq).2 y hy⟩, fun y hy => by rw [zi_cN (by omega)]; exact J.2.2.2.2 y hy⟩) (fun i hi y => by rw [Q2 _ _ _ i hi y]; exact Q i hi y)
              have tn : zcall (zP zM) (e + 5) 18 [.inr (.inr (some 12)), .inr (.inr (some 2)), .inl (nI k), .inl (nI x), .inl (nI t)] H = some (none, cN H (16 + (k + 1)) (oP (mT h) (up r k t) (k + 1) s0) (zi h 37 1) (zi h 37 9)) := by
                rw [e_X3_tellNext]
                simp +decide only [u_X3_tellNext_0, u_X3_tellNext_1, u_X3_tellNext_4, u_X3_tellNext_5, u_X3_tellNext_6, u_X3_tellNext_9, u_X3_tellNext_12, u_X3_tellNext_13, u_X3_tellNext_14, u_X3_tellNext_17, u_X3_tellNext_18, u_X3_tellNext_19, u_X3_tellNext_20, u_X3_tellNext_21, u_X3_tellNext_23, u_X3_tellNext_25, u_X3_tellNext_26, u_X3_tellNext_29, u_X3_tellNext_30, u_X3_tellNext_31, u_X3_tellNext_34, u_X3_tellNext_36, u_X3_tellNext_37, u_X3_tellNext_39, u_X3_tellNext_42, u_X3_tellNext_43, u_X3_tellNext_46, u_X3_tellNext_48, u_X3_tellNext_51, u_X3_tellNext_54, u_X3_tellNext_55, u_X3_tellNext_56, u_X3_tellNext_59, u_X3_tellNext_60, u_X3_tellNext_62, u_X3_tellNext_63, u_X3_tellNext_64, u_X3_tellNext_65, u_X3_tellNext_66, u_X3_tellNext_67, u_X3_tellNext_68, u_X3_tellNext_69, u_X3_tellNext_70, u_X3_tellNext_72, u_X3_tellNext_73, u_X3_tellNext_74, u_X3_tellNext_77, zcl_i, zcl_r, zcl_l, zcl_0, Option.bind_some, Option.bind_none, Option.toList_some, Option.toList_none, List.cons_append, List.nil_append, zk_wI, zk_wR, zk_wC, zr_wI, zr_wC, zi_wR, zn_wI, zn_wR, zn_wC, if_true, if_false, true_or, or_true, or_false, false_or, true_and, and_true, ↓reduceIte, reduceCtorEq, Nat.reduceEqDiff, Nat.reduceLT, Nat.reduceLeDiff, Nat.reduceAdd, Nat.reduceSub, Nat.reduceMul, Int32.reduceLT, Int32.reduceLE, Int32.reduceAdd, Int32.reduceMul, Int32.reduceSub, Int32.reduceToNatClampNeg, and_self, or_self, and_false, false_and, not_true_eq_false, not_false_eq_true, zk_cN, zr_cN, k0, klt, klt', J.2.1, K2 SH, K12 SH, R12_3 SH, K15 SH, nI_1, zix_nI (show k + 1 < 6 by omega) (by decide), zix_nI (show k < 6 by omega) (by decide), ra, rb, ka, tk, c_taleAt (S1 _ _ _) (hc1 _ _ _) hN8 htN, he, zi_cN4, cm]
              refine ⟨H', Eq.trans ?_ c1, c2⟩
              rw [u_X3_goOn_79]
              simp +decide only [u_X3_goOn_0, u_X3_goOn_1, u_X3_goOn_4, u_X3_goOn_5, u_X3_goOn_6, u_X3_goOn_9, u_X3_goOn_12, u_X3_goOn_13, u_X3_goOn_14, u_X3_goOn_17, u_X3_goOn_18, u_X3_goOn_19, u_X3_goOn_21, u_X3_goOn_23, u_X3_goOn_26, u_X3_goOn_27, u_X3_goOn_30, u_X3_goOn_31, u_X3_goOn_32, u_X3_goOn_33, u_X3_goOn_34, u_X3_goOn_37, u_X3_goOn_40, u_X3_goOn_41, u_X3_goOn_42, u_X3_goOn_43, u_X3_goOn_46, u_X3_goOn_49, u_X3_goOn_50, u_X3_goOn_52, u_X3_goOn_55, u_X3_goOn_58, u_X3_goOn_59, u_X3_goOn_62, u_X3_goOn_63, u_X3_goOn_64, u_X3_goOn_67, u_X3_goOn_68, u_X3_goOn_69, u_X3_goOn_72, u_X3_goOn_75, u_X3_goOn_76, u_X3_goOn_77, u_X3_goOn_81, u_X3_goOn_82, u_X3_goOn_85, u_X3_goOn_88, u_X3_goOn_89, u_X3_goOn_91, u_X3_goOn_94, u_X3_goOn_97, u_X3_goOn_98, u_X3_goOn_99, u_X3_goOn_100, u_X3_goOn_101, u_X3_goOn_103, u_X3_goOn_106, u_X3_goOn_109, u_X3_goOn_112, zcl_i, zcl_r, zcl_l, zcl_0, Option.bind_some, Option.bind_none, Option.toList_some, Option.toList_none, List.cons_append, List.nil_append, zk_wI, zk_wR, zk_wC, zr_wI, zr_wC, zi_wR, zn_wI, zn_wR, zn_wC, if_true, if_false, true_or, or_true, or_false, false_or, true_and, and_true, ↓reduceIte, reduceCtorEq, Nat.reduceEqDiff, Nat.reduceLT, Nat.reduceLeDiff, Nat.reduceAdd, Nat.reduceSub, Nat.reduceMul, Int32.reduceLT, Int32.reduceLE, Int32.reduceAdd, Int32.reduceMul, Int32.reduceSub, Int32.reduceToNatClampNeg, and_self, or_self, and_false, false_and, not_true_eq_false, not_false_eq_true, K2 SH, TH.2.1, lt, htN, c_has, tb, u0, K12 SH, tn, nI_1]
      obtain ⟨H', c1, c2⟩ := loop N 0 H0 (by omega) I0 (fun _ _ _ => rfl)
      refine ⟨H', Eq.trans ?_ c1, c2⟩
      simp +decide only [u_X3_goOn_0, u_X3_goOn_1, u_X3_goOn_4, u_X3_goOn_5, u_X3_goOn_6, u_X3_goOn_9, u_X3_goOn_12, u_X3_goOn_13, u_X3_goOn_14, u_X3_goOn_17, u_X3_goOn_18, u_X3_goOn_19, u_X3_goOn_21, u_X3_goOn_23, u_X3_goOn_26, u_X3_goOn_27, u_X3_goOn_30, u_X3_goOn_31, u_X3_goOn_32, u_X3_goOn_33, u_X3_goOn_34, u_X3_goOn_37, u_X3_goOn_40, u_X3_goOn_41, u_X3_goOn_42, u_X3_goOn_43, u_X3_goOn_46, u_X3_goOn_49, u_X3_goOn_50, u_X3_goOn_52, u_X3_goOn_55, u_X3_goOn_58, u_X3_goOn_59, u_X3_goOn_62, u_X3_goOn_63, u_X3_goOn_64, u_X3_goOn_67, u_X3_goOn_68, u_X3_goOn_69, u_X3_goOn_72, u_X3_goOn_75, u_X3_goOn_76, u_X3_goOn_77, u_X3_goOn_81, u_X3_goOn_82, u_X3_goOn_85, u_X3_goOn_88, u_X3_goOn_89, u_X3_goOn_91, u_X3_goOn_94, u_X3_goOn_97, u_X3_goOn_98, u_X3_goOn_99, u_X3_goOn_100, u_X3_goOn_101, u_X3_goOn_103, u_X3_goOn_106, u_X3_goOn_109, u_X3_goOn_112, zcl_i, zcl_r, zcl_l, zcl_0, Option.bind_some, Option.bind_none, Option.toList_some, Option.toList_none, List.cons_append, List.nil_append, zk_wI, zk_wR, zk_wC, zr_wI, zr_wC, zi_wR, zn_wI, zn_wR, zn_wC, if_true, if_false, true_or, or_true, or_false, false_or, true_and, and_true, ↓reduceIte, reduceCtorEq, Nat.reduceEqDiff, Nat.reduceLT, Nat.reduceLeDiff, Nat.reduceAdd, Nat.reduceSub, Nat.reduceMul, Int32.reduceLT, Int32.reduceLE, Int32.reduceAdd, Int32.reduceMul, Int32.reduceSub, Int32.reduceToNatClampNeg, and_self, or_self, and_false, false_and, not_true_eq_false, not_false_eq_true, k0, K12 SH, i1, kn, R12_3 SH, K15 SH, zix_nI (show k < 6 by omega) (by decide), (K15x SH (show k < 6 by omega)).2, (K15x SH (show k < 6 by omega)).1, fc, ec, i2, em, g, kne, kne']
      rfl
    · cases hbq : b with
      | none =>
        rw [hbq] at g
        exact absurd rfl g
      | some q =>
        have gq : ¬ q.1 < f + (m + 1) := fun z => g (by rw [hbq]; exact decide_eq_true z)
        rw [nv_prune f2 (by omega) (by omega), ← hbq]
        refine ⟨H0, ?_, I0, fun _ _ _ => rfl⟩
        simp +decide only [u_X3_goOn_0, u_X3_goOn_1, u_X3_goOn_4, u_X3_goOn_5, u_X3_goOn_6, u_X3_goOn_9, u_X3_goOn_12, u_X3_goOn_13, u_X3_goOn_14, u_X3_goOn_17, u_X3_goOn_18, u_X3_goOn_19, u_X3_goOn_21, u_X3_goOn_23, u_X3_goOn_26, u_X3_goOn_27, u_X3_goOn_30, u_X3_goOn_31, u_X3_goOn_32, u_X3_goOn_33, u_X3_goOn_34, u_X3_goOn_37, u_X3_goOn_40, u_X3_goOn_41, u_X3_goOn_42, u_X3_goOn_43, u_X3_goOn_46, u_X3_goOn_49, u_X3_goOn_50, u_X3_goOn_52, u_X3_goOn_55, u_X3_goOn_58, u_X3_goOn_59, u_X3_goOn_62, u_X3_goOn_63, u_X3_goOn_64, u_X3_goOn_67, u_X3_goOn_68, u_X3_goOn_69, u_X3_goOn_72, u_X3_goOn_75, u_X3_goOn_76, u_X3_goOn_77, u_X3_goOn_81, u_X3_goOn_82, u_X3_goOn_85, u_X3_goOn_88, u_X3_goOn_89, u_X3_goOn_91, u_X3_goOn_94, u_X3_goOn_97, u_X3_goOn_98, u_X3_goOn_99, u_X3_goOn_100, u_X3_goOn_101, u_X3_goOn_103, u_X3_goOn_106, u_X3_goOn_109, u_X3_goOn_112, zcl_i, zcl_r, zcl_l, zcl_0, Option.bind_some, Option.bind_none, Option.toList_some, Option.toList_none, List.cons_append, List.nil_append, zk_wI, zk_wR, zk_wC, zr_wI, zr_wC, zi_wR, zn_wI, zn_wR, zn_wC, if_true, if_false, true_or, or_true, or_false, false_or, true_and, and_true, ↓reduceIte, reduceCtorEq, Nat.reduceEqDiff, Nat.reduceLT, Nat.reduceLeDiff, Nat.reduceAdd, Nat.reduceSub, Nat.reduceMul, Int32.reduceLT, Int32.reduceLE, Int32.reduceAdd, Int32.reduceMul, Int32.reduceSub, Int32.reduceToNatClampNeg, and_self, or_self, and_false, false_and, not_true_eq_false, not_false_eq_true, k0, K12 SH, i1, kn, R12_3 SH, K15 SH, zix_nI (show k < 6 by omega) (by decide), (K15x SH (show k < 6 by omega)).2, (K15x SH (show k < 6 by omega)).1, fc, ec, i2, em, g]
