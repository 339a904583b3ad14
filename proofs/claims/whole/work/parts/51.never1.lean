/-! never: the search as a function -/
abbrev Bst : Type := Option (Nat × (Nat → Nat))
def up (r : Nat → Nat) (k t : Nat) : Nat → Nat := fun x => if x = k then t else r x
def usd (r : Nat → Nat) : Nat → Nat → Bool
  | 0, _ => false
  | k + 1, t => usd r k t || decide (r k = t)
def flN (s : zNt) : Nat := s.2.2.2.2.1.toNatClampNeg
def bt (b : Bst) (f : Nat) : Bool := match b with
  | none => true
  | some q => decide (q.1 < f)
def nlook (T : Nat → zNt → zNt) (s0 : zNt) (k : Nat) (r : Nat → Nat) (b : Bst) : Bst :=
  if (oP T r k s0).2.2.2.2.2 = 0 ∧ bt b (flN (oP T r k s0)) = true then some (flN (oP T r k s0), r) else b
def nf (f : Nat → Bst → Bst) : Nat → Bst → Bst
  | 0, b => b
  | t + 1, b => f t (nf f t b)
def nv (T : Nat → zNt → zNt) (s0 : zNt) (N : Nat) : Nat → Nat → (Nat → Nat) → Bst → Bst
  | 0, k, r, b => nlook T s0 k r b
  | m + 1, k, r, b => nf (fun t b => if usd r k t = true then b else nv T s0 N m (k + 1) (up r k t) b) N b
theorem nf_id {f : Nat → Bst → Bst} {b : Bst} : ∀ {N : Nat}, (∀ t, t < N → f t b = b) → nf f N b = b := by
  intro N
  induction N with
  | zero => intro _; rfl
  | succ N ih =>
    intro h
    rw [nf, ih (fun t ht => h t (by omega))]
    exact h N (by omega)
theorem oP_congr {T : Nat → zNt → zNt} {q q' : Nat → Nat} {s : zNt} : ∀ {n : Nat}, (∀ x, x < n → q x = q' x) → oP T q n s = oP T q' n s := by
  intro n
  induction n with
  | zero => intro _; rfl
  | succ n ih =>
    intro h
    rw [oP, oP, ih (fun x hx => h x (by omega)), h n (by omega)]
theorem up_lt {r : Nat → Nat} {k t x : Nat} (h : x < k) : up r k t x = r x := by
  unfold up
  rw [if_neg (by omega)]
theorem up_eq {r : Nat → Nat} {k t : Nat} : up r k t k = t := by
  unfold up
  rw [if_pos rfl]
theorem oP_up {T : Nat → zNt → zNt} {r : Nat → Nat} {k t : Nat} {s : zNt} : oP T (up r k t) (k + 1) s = T t (oP T r k s) := by
  rw [oP, up_eq, oP_congr (fun x hx => up_lt hx)]
theorem usd_congr {r r' : Nat → Nat} : ∀ {k t : Nat}, (∀ x, x < k → r x = r' x) → usd r k t = usd r' k t := by
  intro k
  induction k with
  | zero => intro t _; rfl
  | succ k ih =>
    intro t h
    rw [usd, usd, ih (fun x hx => h x (by omega)), h k (by omega)]
theorem usd_up {r : Nat → Nat} {k t u : Nat} : usd (up r k t) (k + 1) u = (usd r k u || decide (t = u)) := by
  rw [usd, up_eq, usd_congr (fun x hx => up_lt hx)]
/-- flights: so many -/
def Fl (s : zNt) (f : Nat) : Prop := s.2.2.2.2.1 = nI f
theorem Fl_flN {s : zNt} {f : Nat} (h : Fl s f) (hf : f < 2 ^ 31) : flN s = f := by
  unfold flN
  rw [show s.2.2.2.2.1 = nI f from h, nI_clamp hf]
theorem Fl_mT {h : zH} {t f : Nat} {s : zNt} (F : Fl s f) : Fl (mT h t s) f ∨ Fl (mT h t s) (f + 1) := by
  obtain ⟨a, b, c, e, g, i⟩ := s
  have F' : g = nI f := F
  subst F'
  unfold mT hP
  split
  · split
    · unfold qP
      split
      · exact Or.inr (nI_1 f)
      · split
        · exact Or.inl rfl
        · exact Or.inl rfl
    · exact Or.inl rfl
  · exact Or.inl rfl
theorem mT_come {h : zH} {t : Nat} {s : zNt} (hc : ¬ s.2.2.2.2.2 = 0) : mT h t s = s := by
  unfold mT hP
  rw [if_neg hc]
theorem mT_c01 {h : zH} {t : Nat} {s : zNt} (hc : s.2.2.2.2.2 = 0 ∨ s.2.2.2.2.2 = 1) : (mT h t s).2.2.2.2.2 = 0 ∨ (mT h t s).2.2.2.2.2 = 1 := by
  unfold mT hP
  split
  · split
    · show (qP _ _ _ _ _ _ _ _).2.2 = 0 ∨ (qP _ _ _ _ _ _ _ _).2.2 = 1
      unfold qP
      split
      · exact Or.inl rfl
      · split
        · exact Or.inl rfl
        · show cme _ _ _ = 0 ∨ cme _ _ _ = 1
          unfold cme
          split
          · exact Or.inl rfl
          · exact Or.inr rfl
    · exact Or.inr rfl
  · exact hc
theorem Fl_oP {h : zH} {r : Nat → Nat} {s0 : zNt} (F0 : Fl s0 0) : ∀ k, ∃ f, f ≤ k ∧ Fl (oP (mT h) r k s0) f := by
  intro k
  induction k with
  | zero => exact ⟨0, Nat.le_refl 0, F0⟩
  | succ k ih =>
    obtain ⟨f, f1, f2⟩ := ih
    rw [oP]
    rcases Fl_mT (h := h) (t := r k) f2 with q | q
    · exact ⟨f, by omega, q⟩
    · exact ⟨f + 1, by omega, q⟩
theorem nv_come {h : zH} {s0 : zNt} {N : Nat} : ∀ {m k : Nat} {r : Nat → Nat} {b : Bst}, ¬ (oP (mT h) r k s0).2.2.2.2.2 = 0 → nv (mT h) s0 N m k r b = b := by
  intro m
  induction m with
  | zero =>
    intro k r b hc
    rw [nv, nlook, if_neg (fun z => hc z.1)]
  | succ m ih =>
    intro k r b hc
    rw [nv]
    refine nf_id fun t _ => ?_
    split
    · rfl
    · refine ih ?_
      rw [oP_up, mT_come hc]
      exact hc
theorem nv_prune {h : zH} {s0 : zNt} {N : Nat} : ∀ {m k : Nat} {r : Nat → Nat} {q : Nat × (Nat → Nat)} {f : Nat}, Fl (oP (mT h) r k s0) f → f + m ≤ q.1 → f + m < 100 → nv (mT h) s0 N m k r (some q) = some q := by
  intro m
  induction m with
  | zero =>
    intro k r q f F hq hf
    rw [nv, nlook, if_neg]
    rintro ⟨-, z⟩
    rw [Fl_flN F (by omega), bt, decide_eq_true_eq] at z
    omega
  | succ m ih =>
    intro k r q f F hq hf
    rw [nv]
    refine nf_id fun t _ => ?_
    split
    · rfl
    · rcases Fl_mT (h := h) (t := t) F with F' | F'
      · exact ih (f := f) (by rw [oP_up]; exact F') (by omega) (by omega)
      · exact ih (f := f + 1) (by rw [oP_up]; exact F') (by omega) (by omega)
/-- bits of a set -/
theorem zb_tb : ∀ x, x < 256 → ∀ t, t < 8 → zbit (nI x) (nI t) = x.testBit t := by decide +kernel
theorem sh1 : ∀ u, u < 8 → (1 : Int32) <<< (nI u &&& 31) = nI (2 ^ u) := by decide +kernel
/-- the numbers told by a row, as a set -/
def Tld (r : Nat → Nat) (k x : Nat) : Prop := x < 256 ∧ ∀ t, t < 8 → x.testBit t = usd r k t
theorem Tld_0 {r : Nat → Nat} : Tld r 0 0 := ⟨by decide, fun t _ => by simp [usd]⟩
theorem Tld_up {r : Nat → Nat} {k x t : Nat} (h : Tld r k x) (ht : t < 8) : Tld (up r k t) (k + 1) (x ||| 2 ^ t) := by
  refine ⟨Nat.or_lt_two_pow (n := 8) h.1 (Nat.pow_lt_pow_right (by decide) ht), fun u hu => ?_⟩
  rw [Nat.testBit_or, h.2 u hu, usd_up, Nat.testBit_two_pow]
theorem Tld_bit {r : Nat → Nat} {k x t : Nat} (h : Tld r k x) (ht : t < 8) : zbit (nI x) (nI t) = usd r k t := by
  rw [zb_tb x h.1 t ht, h.2 t ht]
/-- a night as it stands in a cell -/
def isN (H : zH) (a : Nat) (s : zNt) (sp bl : Int32) : Prop := zi H a 5 = sp ∧ zi H a 3 = s.2.1 ∧ zi H a 6 = bl ∧ zi H a 0 = s.1 ∧ zi H a 1 = s.2.2.2.2.1 ∧ zi H a 2 = s.2.2.2.1 ∧ zi H a 7 = s.2.2.1 ∧ zi H a 4 = s.2.2.2.2.2
theorem isN_cN {H : zH} {a : Nat} {s : zNt} {sp bl : Int32} : isN (cN H a s sp bl) a s sp bl := ⟨zi_cN5, zi_cN3, zi_cN6, zi_cN0, zi_cN1, zi_cN2, zi_cN7, zi_cN4⟩
theorem isN_of {H H' : zH} {a : Nat} {s : zNt} {sp bl : Int32} (I : isN H a s sp bl) (e : ∀ y, zi H' a y = zi H a y) : isN H' a s sp bl := by
  unfold isN
  rw [e, e, e, e, e, e, e, e]
  exact I
theorem c_takeUp {d : Nat} {H : zH} {a b : Nat} (hk : zk H a = (4, 0)) (hk' : zk H b = (4, 0)) (hne : a ≠ b) {s : zNt} {sp bl : Int32} (I : isN H b s sp bl) (hc : s.2.2.2.2.2 = 0 ∨ s.2.2.2.2.2 = 1) : zcall (zP zM) (d + 1) 21 [.inr (.inr (some a)), .inr (.inr (some b))] H = some (none, cN H a s sp bl) := by
  obtain ⟨i1, i2, i3, i4, i5, i6, i7, i8⟩ := I
  have rd : ∀ (H : zH) j v y, zi (zwI H a j v) b y = zi H b y := fun H j v y => by rw [zi_wI, if_neg (fun z => hne z.1.symm)]
  rw [e_X4_takeUp]
  simp +decide only [u_X4_takeUp_0, u_X4_takeUp_1, u_X4_takeUp_2, u_X4_takeUp_5, u_X4_takeUp_8, u_X4_takeUp_9, u_X4_takeUp_10, u_X4_takeUp_13, u_X4_takeUp_16, u_X4_takeUp_17, u_X4_takeUp_18, u_X4_takeUp_21, u_X4_takeUp_24, u_X4_takeUp_25, u_X4_takeUp_26, u_X4_takeUp_29, u_X4_takeUp_32, u_X4_takeUp_33, u_X4_takeUp_34, u_X4_takeUp_37, u_X4_takeUp_40, u_X4_takeUp_41, u_X4_takeUp_42, u_X4_takeUp_45, u_X4_takeUp_48, u_X4_takeUp_49, u_X4_takeUp_50, u_X4_takeUp_53, u_X4_takeUp_56, u_X4_takeUp_57, u_X4_takeUp_58, u_X4_takeUp_61, u_X4_takeUp_64, zcl_i, zcl_r, zcl_l, zcl_0, Option.bind_some, Option.bind_none, Option.toList_some, Option.toList_none, List.cons_append, List.nil_append, zk_wI, zk_wR, zk_wC, zr_wI, zr_wC, zi_wR, zn_wI, zn_wR, zn_wC, if_true, if_false, true_or, or_true, or_false, false_or, true_and, and_true, ↓reduceIte, reduceCtorEq, Nat.reduceEqDiff, Nat.reduceLT, Nat.reduceLeDiff, Nat.reduceAdd, Nat.reduceSub, Nat.reduceMul, Int32.reduceLT, Int32.reduceLE, Int32.reduceAdd, Int32.reduceMul, Int32.reduceSub, Int32.reduceToNatClampNeg, and_self, or_self, and_false, false_and, not_true_eq_false, not_false_eq_true, hk, hk', rd, i1, i2, i3, i4, i5, i6, i7, i8, hc]
  rfl
theorem K15x {H : zH} (S : St H) {i : Nat} (hi : i < 6) : zk H (16 + i) = (4, 0) ∧ zr H 15 i = some (16 + i) := by
  rcases (show i = 0 ∨ i = 1 ∨ i = 2 ∨ i = 3 ∨ i = 4 ∨ i = 5 by omega) with rfl | rfl | rfl | rfl | rfl | rfl
  · exact ⟨K16 S, R15_0 S⟩
  · exact ⟨K17 S, R15_1 S⟩
  · exact ⟨K18 S, R15_2 S⟩
  · exact ⟨K19 S, R15_3 S⟩
  · exact ⟨K20 S, R15_4 S⟩
  · exact ⟨K21 S, R15_5 S⟩
