/-! the class's state and the reference's agree -/
def IvT (h : zH) (n : Nat) : Prop := n ≤ 8 ∧ zi h 2 1 = nI n ∧ zi h 37 2 = nI n ∧ zi h 2 0 = zi h 37 1 ∧ (∃ s, s ≤ 9 ∧ (0 < n → 1 ≤ s) ∧ zi h 37 1 = nI s) ∧ ∀ t, t < n → ∃ ta k, zr h 3 t = some ta ∧ 64 ≤ ta ∧ ta < zn h ∧ zi h 38 t = nI k ∧ isT h ta k (nI t) (zi h 39 t) (zi h 40 t) (zi h 41 t) (zi h 42 t) ∧ ∃ a b c e, a < 8 ∧ b < 8 ∧ c < 8 ∧ e < 4 ∧ zi h 39 t = nI a ∧ zi h 40 t = nI b ∧ zi h 41 t = nI c ∧ zi h 42 t = nI e
def IvK (h : zH) : Prop := ∃ k b, k < 256 ∧ b < 256 ∧ zi h 1 1 = nI k ∧ zi h 37 8 = nI k ∧ zi h 1 2 = nI b ∧ zi h 37 9 = nI b
def IvF (h : zH) : Prop := zi h 1 6 = zi h 37 0 ∧ zi h 9 0 = zi h 37 42
def IvR (h : zH) (n : Nat) : Prop := ∃ r, r ≤ 8 ∧ zi h 4 0 = nI r ∧ zi h 37 34 = nI r ∧ ∀ i, i < r → ∃ t, t < n ∧ zi h 5 i = nI t ∧ zi h 57 i = nI t ∧ ((zi h 6 i = -9 ∧ zi h 58 i = -9) ∨ ∃ u, u < n ∧ zi h 6 i = nI u ∧ zi h 58 i = nI u) ∧ zi h 7 i = zi h 59 i
def IvS (h : zH) : Prop := ∀ k, k < 4 → (zi h 60 k = -1 ∧ zi h (29 + 2 * k) 0 = -9 ∧ zi h (29 + 2 * k) 1 = 0) ∨ ∃ c l, c ≤ 60 ∧ l ≤ 2 ∧ zi h 60 k = nI c ∧ zi h 61 k = nI l ∧ zi h (29 + 2 * k) 0 = nI l ∧ zi h (29 + 2 * k) 1 = nI c ∧ ∀ i, i < c → zi h (30 + 2 * k) i = zi h 62 (60 * k + i)
def Inv (h : zH) : Prop := St h ∧ 64 ≤ zn h ∧ ∃ n, IvT h n ∧ IvK h ∧ IvF h ∧ IvR h n ∧ IvS h
theorem zscr_no {a j : Nat} (h : ¬ ((a = 37 ∧ ((10 ≤ j ∧ j ≤ 12) ∨ (18 ≤ j ∧ j ≤ 23) ∨ j = 26)) ∨ (43 ≤ a ∧ a ≤ 56) ∨ a = 63 ∨ (10 ≤ a ∧ a ≤ 28) ∨ (a = 1 ∧ j = 8))) : zscr a j = false := decide_eq_false h
theorem Pres.IvT {h h' : zH} (p : Pres h h') {n : Nat} (I : IvT h n) : IvT h' n := by
  obtain ⟨h1, h2, h3, h4, ⟨s, h5, h6, h7⟩, h8⟩ := I
  have q := p.2.2.2.2
  refine ⟨h1, by rw [q 2 1 (zscr_no (by omega))]; exact h2, by rw [q 37 2 (zscr_no (by omega))]; exact h3, by rw [q 2 0 (zscr_no (by omega)), q 37 1 (zscr_no (by omega))]; exact h4, ⟨s, h5, h6, by rw [q 37 1 (zscr_no (by omega))]; exact h7⟩, fun t ht => ?_⟩
  obtain ⟨ta, k, t1, t2, t3, t4, ⟨u1, u2, u3, u4, u5, u6, u7⟩, a, b, c, e, v1, v2, v3, v4, v5, v6, v7, v8⟩ := h8 t ht
  rw [q 38 t (zscr_no (by omega)), q 39 t (zscr_no (by omega)), q 40 t (zscr_no (by omega)), q 41 t (zscr_no (by omega)), q 42 t (zscr_no (by omega))]
  refine ⟨ta, k, by rw [p.2.2.2.1]; exact t1, t2, by rw [p.1]; exact t3, t4, ⟨by rw [p.2.2.1]; exact u1, u2, ?_, ?_, ?_, ?_, ?_⟩, a, b, c, e, v1, v2, v3, v4, v5, v6, v7, v8⟩
  · rw [q ta 0 (zscr_no (by omega))]; exact u3
  · rw [q ta 1 (zscr_no (by omega))]; exact u4
  · rw [q ta 2 (zscr_no (by omega))]; exact u5
  · rw [q ta 3 (zscr_no (by omega))]; exact u6
  · rw [q ta 4 (zscr_no (by omega))]; exact u7
theorem Pres.IvK {h h' : zH} (p : Pres h h') (I : IvK h) : IvK h' := by
  obtain ⟨k, b, h1, h2, h3, h4, h5, h6⟩ := I
  have q := p.2.2.2.2
  exact ⟨k, b, h1, h2, by rw [q 1 1 (zscr_no (by omega))]; exact h3, by rw [q 37 8 (zscr_no (by omega))]; exact h4, by rw [q 1 2 (zscr_no (by omega))]; exact h5, by rw [q 37 9 (zscr_no (by omega))]; exact h6⟩
theorem Pres.IvF {h h' : zH} (p : Pres h h') (I : IvF h) : IvF h' := by
  have q := p.2.2.2.2
  exact ⟨by rw [q 1 6 (zscr_no (by omega)), q 37 0 (zscr_no (by omega))]; exact I.1, by rw [q 9 0 (zscr_no (by omega)), q 37 42 (zscr_no (by omega))]; exact I.2⟩
theorem Pres.IvR {h h' : zH} (p : Pres h h') {n : Nat} (I : IvR h n) : IvR h' n := by
  obtain ⟨r, h1, h2, h3, h4⟩ := I
  have q := p.2.2.2.2
  refine ⟨r, h1, by rw [q 4 0 (zscr_no (by omega))]; exact h2, by rw [q 37 34 (zscr_no (by omega))]; exact h3, fun i hi => ?_⟩
  rw [q 5 i (zscr_no (by omega)), q 57 i (zscr_no (by omega)), q 6 i (zscr_no (by omega)), q 58 i (zscr_no (by omega)), q 7 i (zscr_no (by omega)), q 59 i (zscr_no (by omega))]
  exact h4 i hi
theorem Pres.IvS {h h' : zH} (p : Pres h h') (I : IvS h) : IvS h' := by
  have q := p.2.2.2.2
  intro k hk
  rw [q 60 k (zscr_no (by omega)), q 61 k (zscr_no (by omega)), q (29 + 2 * k) 0 (zscr_no (by omega)), q (29 + 2 * k) 1 (zscr_no (by omega))]
  rcases I k hk with h1 | ⟨c, l, h1, h2, h3, h4, h5, h6, h7⟩
  · exact Or.inl h1
  · refine Or.inr ⟨c, l, h1, h2, h3, h4, h5, h6, fun i hi => ?_⟩
    rw [q (30 + 2 * k) i (zscr_no (by omega)), q 62 (60 * k + i) (zscr_no (by omega))]
    exact h7 i hi
theorem Pres.Inv {h h' : zH} (p : Pres h h') (I : Inv h) : Inv h' := by
  obtain ⟨S, h1, n, h2, h3, h4, h5, h6⟩ := I
  exact ⟨p.St S, by rw [p.1]; exact h1, n, p.IvT h2, p.IvK h3, p.IvF h4, p.IvR h5, p.IvS h6⟩
/-- writing a cell that a part doesn't look at -/
theorem IvT_w {h : zH} {n : Nat} (I : IvT h n) {a j : Nat} {v : Int32} (ha : a < 64) (hx : ¬ (a = 2 ∧ (j = 0 ∨ j = 1)) ∧ ¬ (a = 37 ∧ (j = 1 ∨ j = 2)) ∧ ¬ (38 ≤ a ∧ a ≤ 42)) : IvT (zwI h a j v) n := by
  have q : ∀ x y, ¬ (x = a ∧ y = j) → zi (zwI h a j v) x y = zi h x y := fun x y hz => by rw [zi_wI, if_neg hz]
  obtain ⟨h1, h2, h3, h4, ⟨s, h5, h6, h7⟩, h8⟩ := I
  refine ⟨h1, by rw [q 2 1 (by omega)]; exact h2, by rw [q 37 2 (by omega)]; exact h3, by rw [q 2 0 (by omega), q 37 1 (by omega)]; exact h4, ⟨s, h5, h6, by rw [q 37 1 (by omega)]; exact h7⟩, fun t ht => ?_⟩
  obtain ⟨ta, k, t1, t2, t3, t4, ⟨u1, u2, u3, u4, u5, u6, u7⟩, r⟩ := h8 t ht
  rw [q 38 t (by omega), q 39 t (by omega), q 40 t (by omega), q 41 t (by omega), q 42 t (by omega)]
  refine ⟨ta, k, t1, t2, t3, t4, ⟨u1, u2, ?_, ?_, ?_, ?_, ?_⟩, r⟩
  · rw [q ta 0 (by omega)]; exact u3
  · rw [q ta 1 (by omega)]; exact u4
  · rw [q ta 2 (by omega)]; exact u5
  · rw [q ta 3 (by omega)]; exact u6
  · rw [q ta 4 (by omega)]; exact u7
theorem IvK_w {h : zH} (I : IvK h) {a j : Nat} {v : Int32} (hx : ¬ (a = 1 ∧ (j = 1 ∨ j = 2)) ∧ ¬ (a = 37 ∧ (j = 8 ∨ j = 9))) : IvK (zwI h a j v) := by
  have q : ∀ x y, ¬ (x = a ∧ y = j) → zi (zwI h a j v) x y = zi h x y := fun x y hz => by rw [zi_wI, if_neg hz]
  obtain ⟨k, b, h1, h2, h3, h4, h5, h6⟩ := I
  exact ⟨k, b, h1, h2, by rw [q 1 1 (by omega)]; exact h3, by rw [q 37 8 (by omega)]; exact h4, by rw [q 1 2 (by omega)]; exact h5, by rw [q 37 9 (by omega)]; exact h6⟩
theorem IvF_w {h : zH} (I : IvF h) {a j : Nat} {v : Int32} (hx : ¬ (a = 1 ∧ j = 6) ∧ ¬ (a = 37 ∧ (j = 0 ∨ j = 42)) ∧ ¬ (a = 9 ∧ j = 0)) : IvF (zwI h a j v) := by
  have q : ∀ x y, ¬ (x = a ∧ y = j) → zi (zwI h a j v) x y = zi h x y := fun x y hz => by rw [zi_wI, if_neg hz]
  exact ⟨by rw [q 1 6 (by omega), q 37 0 (by omega)]; exact I.1, by rw [q 9 0 (by omega), q 37 42 (by omega)]; exact I.2⟩
theorem IvR_w {h : zH} {n : Nat} (I : IvR h n) {a j : Nat} {v : Int32} (hx : ¬ (a = 4 ∧ j = 0) ∧ ¬ (a = 37 ∧ j = 34) ∧ ¬ (5 ≤ a ∧ a ≤ 7) ∧ ¬ (57 ≤ a ∧ a ≤ 59)) : IvR (zwI h a j v) n := by
  have q : ∀ x y, ¬ (x = a ∧ y = j) → zi (zwI h a j v) x y = zi h x y := fun x y hz => by rw [zi_wI, if_neg hz]
  obtain ⟨r, h1, h2, h3, h4⟩ := I
  refine ⟨r, h1, by rw [q 4 0 (by omega)]; exact h2, by rw [q 37 34 (by omega)]; exact h3, fun i hi => ?_⟩
  rw [q 5 i (by omega), q 57 i (by omega), q 6 i (by omega), q 58 i (by omega), q 7 i (by omega), q 59 i (by omega)]
  exact h4 i hi
theorem IvS_w {h : zH} (I : IvS h) {a j : Nat} {v : Int32} (hx : ¬ (29 ≤ a ∧ a ≤ 36) ∧ ¬ (60 ≤ a ∧ a ≤ 62)) : IvS (zwI h a j v) := by
  have q : ∀ x y, ¬ (x = a ∧ y = j) → zi (zwI h a j v) x y = zi h x y := fun x y hz => by rw [zi_wI, if_neg hz]
  intro k hk
  rw [q 60 k (by omega), q 61 k (by omega), q (29 + 2 * k) 0 (by omega), q (29 + 2 * k) 1 (by omega)]
  rcases I k hk with h1 | ⟨c, l, h1, h2, h3, h4, h5, h6, h7⟩
  · exact Or.inl h1
  · refine Or.inr ⟨c, l, h1, h2, h3, h4, h5, h6, fun i hi => ?_⟩
    rw [q (30 + 2 * k) i (by omega), q 62 (60 * k + i) (by omega)]
    exact h7 i hi
/-- both write the same fault -/
theorem Inv_fault {h : zH} (I : Inv h) {v : Int32} : Inv (zwI (zwI h 1 6 v) 37 0 v) := by
  obtain ⟨S, h1, n, h2, h3, h4, h5, h6⟩ := I
  refine ⟨S, h1, n, IvT_w (IvT_w h2 (by omega) (by omega)) (by omega) (by omega), IvK_w (IvK_w h3 (by omega)) (by omega), ⟨?_, ?_⟩, IvR_w (IvR_w h5 (by omega)) (by omega), IvS_w (IvS_w h6 (by omega)) (by omega)⟩
  · simp [zi_wI]
  · simp [zi_wI, h4.2]
/-- one call of both: the same answer, and they agree again -/
def Stq (kC kM : Nat) (as : List zV) (h : zH) : Prop := ∃ (r : zV) (h1 h2 : zH), zcall (zP zM) 40 kC (.inr (.inr (some 1)) :: as) h = some (some r, h1) ∧ zcall (zP zM) 40 kM (.inr (.inr (some 37)) :: as) h1 = some (some r, h2) ∧ Inv h2 ∧ zn h2 ≤ zn h + 8 ∧ zu h2 ≤ zu h + 40
