/-! how the machine's heap and locals hold the deep machine's -/
def zadr (b B k : Nat) : Nat := if k = 0 then b else B + (k - 1)
def ztr (b B : Nat) (v : zV) : Value := match v with
  | .inl x => .int x
  | .inr (.inl x) => .long x
  | .inr (.inr r) => va_rf (r.map (zadr b B))
theorem ztr_cat (b B : Nat) (v : zV) : (ztr b B v).category = 2 ↔ zlong v = true := by
  rcases v with x | x | (_ | x) <;> simp [ztr, zlong, Value.category, va_rf]
def zLV (b B : Nat) (la : Array Slot) (nL : Nat) (ls : zL) : Prop := la.size = nL ∧ lv_wf la ∧ ls.length = nL ∧ ∀ (i : Nat) (v : zV), ls[i]? = some (some v) → la[i]? = some (.val (ztr b B v))
def zas (b B : Nat) (ls : zL) : List (Nat × Value) := (List.range ls.length).filterMap fun i => (zld ls i).map fun v => (i, ztr b B v)
theorem zld_iff {ls : zL} {i : Nat} {v : zV} : zld ls i = some v ↔ ls[i]? = some (some v) := by
  unfold zld
  rcases h : ls[i]? with _ | (_ | w) <;> simp
theorem zas_mem {b B : Nat} {ls : zL} {i : Nat} {v : zV} (h : ls[i]? = some (some v)) : (i, ztr b B v) ∈ zas b B ls := by
  refine List.mem_filterMap.mpr ⟨i, List.mem_range.mpr (List.getElem?_eq_some_iff.mp h).1, ?_⟩
  rw [zld_iff.mpr h]
  rfl
theorem zLV.has {b B : Nat} {la : Array Slot} {nL : Nat} {ls : zL} (h : zLV b B la nL ls) : lv_has la nL (zas b B ls) := by
  refine ⟨h.1, h.2.1, fun q hq => ?_⟩
  obtain ⟨i, -, hi⟩ := List.mem_filterMap.mp hq
  cases hv : zld ls i with
  | none => rw [hv] at hi; cases hi
  | some v =>
    rw [hv] at hi
    cases hi
    exact h.2.2.2 i v (zld_iff.mp hv)
theorem zst1_len : ∀ (ls : zL) (i : Nat) (v : zV), (zst1 ls i v).length = ls.length
  | [], _, _ => by simp [zst1]
  | _ :: ls, 0, v => by simp [zst1]
  | [x], 1, _ => by simp [zst1]
  | x :: _ :: ls, 1, v => by simp [zst1]
  | x :: ls, k + 2, v => by simp [zst1, zst1_len ls (k + 1) v]
theorem zcl_some {x : Option zV} {w : zV} (h : zcl x = some w) : x = some w ∧ zlong w = false := by
  rcases x with _ | (x | x | x) <;> simp [zcl] at h <;> subst h <;> simp [zlong]
theorem zst1_get : ∀ (ls : zL) (i : Nat) (v : zV) (j : Nat) (w : zV), i < ls.length → (zst1 ls i v)[j]? = some (some w) → (j = i ∧ w = v) ∨ (j ≠ i ∧ ls[j]? = some (some w) ∧ ¬ (j + 1 = i ∧ zlong w = true))
  | [], _, _, _, _, hi, _ => absurd hi (Nat.not_lt_zero _)
  | y :: ls, 0, v, j, w, _, h => by
    cases j with
    | zero =>
      simp [zst1] at h
      exact Or.inl ⟨rfl, h.symm⟩
    | succ j =>
      simp [zst1] at h
      exact Or.inr ⟨by omega, by simpa using h, by omega⟩
  | [x], 1, v, j, w, hi, h => by simp at hi
  | x :: y :: ls, 1, v, j, w, _, h => by
    match j, h with
    | 0, h =>
      simp [zst1] at h
      obtain ⟨h1, h2⟩ := zcl_some h
      exact Or.inr ⟨by omega, by simp [h1], fun q => by rw [h2] at q; exact absurd q.2 (by decide)⟩
    | 1, h =>
      simp [zst1] at h
      exact Or.inl ⟨rfl, h.symm⟩
    | j + 2, h =>
      simp [zst1] at h
      exact Or.inr ⟨by omega, by simpa using h, by omega⟩
  | x :: ls, k + 2, v, j, w, hi, h => by
    cases j with
    | zero =>
      simp [zst1] at h
      exact Or.inr ⟨by omega, by simp [h], by omega⟩
    | succ j =>
      simp [zst1] at h
      rcases zst1_get ls (k + 1) v j w (by simp at hi; omega) h with ⟨h1, h2⟩ | ⟨h1, h2, h3⟩
      · exact Or.inl ⟨by omega, h2⟩
      · exact Or.inr ⟨by omega, by simpa using h2, fun q => h3 ⟨by omega, q.2⟩⟩
theorem zLV.st1 {b B : Nat} {la : Array Slot} {nL : Nat} {ls : zL} {i : Nat} {v : zV} (hn : ls.length = nL) (hi : i < nL) (h : lv_has la nL ((i, ztr b B v) :: (zas b B ls).filter (fun q => !(q.1 == i) && !(q.1 + 1 == i && q.2.category == 2)))) : zLV b B la nL (zst1 ls i v) := by
  refine ⟨h.1, h.2.1, by rw [zst1_len, hn], fun j w hj => ?_⟩
  rcases zst1_get ls i v j w (by omega) hj with ⟨rfl, rfl⟩ | ⟨h1, h2, h3⟩
  · exact h.2.2 (j, ztr b B w) List.mem_cons_self
  · refine h.2.2 (j, ztr b B w) (List.mem_cons_of_mem _ (List.mem_filter.mpr ⟨zas_mem h2, ?_⟩))
    have := ztr_cat b B w
    simp only [Bool.and_eq_true, Bool.not_eq_true', beq_eq_false_iff_ne, ne_eq, Bool.and_eq_false_iff]
    refine ⟨h1, ?_⟩
    by_cases q : j + 1 = i
    · exact Or.inr (fun z => h3 ⟨q, this.mp z⟩)
    · exact Or.inl q
theorem zLV.st2 {b B : Nat} {la : Array Slot} {nL : Nat} {ls : zL} {i : Nat} {v : zV} (hn : ls.length = nL) (hi : i + 1 < nL) (h : lv_has la nL ((i, ztr b B v) :: (zas b B ls).filter (fun q => !(q.1 == i) && (!(q.1 == i + 1) && !(q.1 + 1 == i && q.2.category == 2))))) : zLV b B la nL (zst2 ls i v) := by
  refine ⟨h.1, h.2.1, by rw [zst2, List.length_set, zst1_len, hn], fun j w hj => ?_⟩
  have hne : j ≠ i + 1 := by
    rintro rfl
    rw [zst2, List.getElem?_set_self (by rw [zst1_len]; omega)] at hj
    cases hj
  rw [zst2, List.getElem?_set_ne (Ne.symm hne)] at hj
  rcases zst1_get ls i v j w (by omega) hj with ⟨rfl, rfl⟩ | ⟨h1, h2, h3⟩
  · exact h.2.2 (j, ztr b B w) List.mem_cons_self
  · refine h.2.2 (j, ztr b B w) (List.mem_cons_of_mem _ (List.mem_filter.mpr ⟨zas_mem h2, ?_⟩))
    have := ztr_cat b B w
    simp only [Bool.and_eq_true, Bool.not_eq_true', beq_eq_false_iff_ne, ne_eq, Bool.and_eq_false_iff]
    refine ⟨h1, hne, ?_⟩
    by_cases q : j + 1 = i
    · exact Or.inr (fun z => h3 ⟨q, this.mp z⟩)
    · exact Or.inl q
/-! the heap -/
def zNF (t : Nat) : Nat := match t with
  | 0 => 5 | 1 => 3 | 2 => 2 | 3 => 5 | 4 => 8 | 5 => 5 | 6 => 4 | 7 => 3 | 8 => 5 | 9 => 1 | 10 => 12 | _ => 43
def zTy (t : Nat) : Nat → FieldType := match t with
  | 0 => tyX0 | 1 => tyX1 | 2 => tyX2 | 3 => tyX3 | 4 => tyX4 | 5 => tyX5 | 6 => tyX6 | 7 => tyX7 | 8 => tyX8 | 9 => tyX9 | 10 => tyX10 | _ => tyX11
def zisI (ty : FieldType) : Bool := match ty with
  | .int => true
  | .boolean => true
  | _ => false
def zfv (b B : Nat) (h : zH) (a j : Nat) : Value := if zisI (zTy (zk h a).1 j) = true then .int (zi h a j) else va_rf ((zr h a j).map (zadr b B))
def zcell (b B : Nat) (cA : Nat → ClassId) (h : zH) (a : Nat) : va_E := if (zk h a).1 < 12 then .inr ((zk h a).1, (List.range (zNF (zk h a).1)).map (zfv b B h a)) else if (zk h a).1 = 12 then .inl (cA 0, (zk h a).2, .inl (zi h a)) else .inl (cA ((zk h a).1 - 12), (zk h a).2, .inr (.inr (.inr (.inr (fun j => (zr h a j).map (zadr b B))))))
def zws (b B : Nat) (cA : Nat → ClassId) (h : zH) : va_W := (List.range (zn h - 1)).map fun k => (B + k, zcell b B cA h (k + 1))
def zRep (b B L : Nat) (xs : Nat → Int32) (dC : Nat → ClassId) (dI : Nat → Nat → Nat) (cA : Nat → ClassId) (h : zH) (H : Heap) : Prop :=
  va_P (dC, dI) vwCl (zws b B cA h) H ∧ H.size + 1 = B + zn h ∧ 1 ≤ zn h ∧ (∀ a, zn h ≤ a → (zk h a).1 = 99) ∧ (∀ a, 1 ≤ a → a < zn h → (zk h a).1 < 16) ∧ zk h 0 = (16, L) ∧ ∀ j, j < L → zi h 0 j = xs j
section ZREP
variable {b B L : Nat} {xs : Nat → Int32} {dC : Nat → ClassId} {dI : Nat → Nat → Nat} {cA : Nat → ClassId} {h h' : zH} {H H' : Heap}
theorem zRep.in (r : zRep b B L xs dC dI cA h H) {a : Nat} (ha : (zk h a).1 < 16) : 1 ≤ a ∧ a < zn h := by
  obtain ⟨-, -, h1, h2, -, h4, -⟩ := r
  refine ⟨?_, ?_⟩
  · rcases Nat.eq_zero_or_pos a with q | q
    · subst q
      rw [h4] at ha
      exact absurd ha (by simp)
    · exact q
  · rcases Nat.lt_or_ge a (zn h) with q | q
    · exact q
    · rw [h2 a q] at ha
      exact absurd ha (by simp)
theorem zadr_pos {b B a : Nat} (h : 1 ≤ a) : zadr b B a = B + (a - 1) := by
  unfold zadr
  rw [if_neg (by omega)]
theorem zws_get (b B : Nat) (cA : Nat → ClassId) (h : zH) {a : Nat} (h1 : 1 ≤ a) (h2 : a < zn h) : (zws b B cA h)[a - 1]? = some (zadr b B a, zcell b B cA h a) := by
  unfold zws
  rw [List.getElem?_map, List.getElem?_range (by omega)]
  show some (B + (a - 1), zcell b B cA h (a - 1 + 1)) = _
  rw [zadr_pos h1, Nat.sub_add_cancel h1]
theorem zws_D (b B : Nat) (cA : Nat → ClassId) (h : zH) : va_D (fun q => B ≤ q) (zws b B cA h) := by
  have key : ∀ (i : Nat) (p : Nat × va_E), (zws b B cA h)[i]? = some p → p.1 = B + i := by
    intro i p hp
    have hl : i < zn h - 1 := by
      have := (List.getElem?_eq_some_iff.mp hp).1
      simpa [zws] using this
    rw [zws, List.getElem?_map, List.getElem?_range hl] at hp
    cases hp
    rfl
  refine ⟨fun i j p q hi hj hpq => ?_, fun k q hk => ?_⟩
  · rw [key i p hi, key j q hj] at hpq
    omega
  · rw [key k q hk]
    exact Nat.le_add_right _ _
theorem zws_set {a : Nat} (h1 : 1 ≤ a) (h2 : a < zn h) (hn : zn h' = zn h) (ho : ∀ x, x ≠ a → zcell b B cA h' x = zcell b B cA h x) : (zws b B cA h).set (a - 1) (zadr b B a, zcell b B cA h' a) = zws b B cA h' := by
  apply List.ext_getElem?
  intro i
  have hlen : (zws b B cA h).length = zn h - 1 := by simp [zws]
  by_cases hi : i = a - 1
  · subst hi
    rw [List.getElem?_set_self (by rw [hlen]; omega), zws_get b B cA h' h1 (by omega)]
  · rw [List.getElem?_set_ne (Ne.symm hi)]
    unfold zws
    rw [hn, List.getElem?_map, List.getElem?_map]
    by_cases hl : i < zn h - 1
    · rw [List.getElem?_range hl]
      show some (B + i, zcell b B cA h (i + 1)) = some (B + i, zcell b B cA h' (i + 1))
      rw [ho (i + 1) (by omega)]
    · rw [List.getElem?_eq_none (by simp; omega)]
      rfl
theorem zRep.put (r : zRep b B L xs dC dI cA h H) {a : Nat} (ha : (zk h a).1 < 16) (hn : zn h' = zn h) (hk : ∀ x, zk h' x = zk h x) (ho : ∀ x, x ≠ a → zcell b B cA h' x = zcell b B cA h x) (h0 : ∀ j, zi h' 0 j = zi h 0 j) (hz : H'.size = H.size)
    (hP : va_P (dC, dI) vwCl ((zws b B cA h).set (a - 1) (zadr b B a, zcell b B cA h' a)) H') : zRep b B L xs dC dI cA h' H' := by
  obtain ⟨h1, h2⟩ := r.in ha
  rw [zws_set h1 h2 hn ho] at hP
  obtain ⟨-, r2, r3, r4, r5, r6, r7⟩ := r
  refine ⟨hP, by rw [hz, hn]; exact r2, by rw [hn]; exact r3, fun x hx => ?_, fun x hx hx2 => ?_, by rw [hk]; exact r6, fun j hj => by rw [h0]; exact r7 j hj⟩
  · rw [hk]; exact r4 x (by rw [← hn]; exact hx)
  · rw [hk]; exact r5 x hx (by rw [← hn]; exact hx2)
end ZREP
theorem zk_wI (h : zH) (a j : Nat) (v : Int32) (x : Nat) : zk (zwI h a j v) x = zk h x := rfl
theorem zr_wI (h : zH) (a j : Nat) (v : Int32) (x y : Nat) : zr (zwI h a j v) x y = zr h x y := rfl
theorem zi_wI (h : zH) (a j : Nat) (v : Int32) (x y : Nat) : zi (zwI h a j v) x y = if x = a ∧ y = j then v else zi h x y := rfl
theorem zn_wI (h : zH) (a j : Nat) (v : Int32) : zn (zwI h a j v) = zn h := rfl
theorem zu_wI (h : zH) (a j : Nat) (v : Int32) : zu (zwI h a j v) = zu h := rfl
theorem zk_wR (h : zH) (a j : Nat) (v : Option Nat) (x : Nat) : zk (zwR h a j v) x = zk h x := rfl
theorem zi_wR (h : zH) (a j : Nat) (v : Option Nat) (x y : Nat) : zi (zwR h a j v) x y = zi h x y := rfl
theorem zr_wR (h : zH) (a j : Nat) (v : Option Nat) (x y : Nat) : zr (zwR h a j v) x y = if x = a ∧ y = j then v else zr h x y := rfl
theorem zn_wR (h : zH) (a j : Nat) (v : Option Nat) : zn (zwR h a j v) = zn h := rfl
theorem zu_wR (h : zH) (a j : Nat) (v : Option Nat) : zu (zwR h a j v) = zu h := rfl
theorem zk_wC (h : zH) (a sp b dp n x : Nat) : zk (zwC h a sp b dp n) x = zk h x := rfl
theorem zr_wC (h : zH) (a sp b dp n x y : Nat) : zr (zwC h a sp b dp n) x y = zr h x y := rfl
theorem zi_wC (h : zH) (a sp b dp n x y : Nat) : zi (zwC h a sp b dp n) x y = if x = b ∧ dp ≤ y ∧ y < dp + n then zi h a (sp + (y - dp)) else zi h x y := rfl
theorem zn_wC (h : zH) (a sp b dp n : Nat) : zn (zwC h a sp b dp n) = zn h := rfl
theorem zu_wC (h : zH) (a sp b dp n : Nat) : zu (zwC h a sp b dp n) = zu h := rfl
theorem zk_N (h : zH) (t n N x : Nat) : zk (zN h t n N) x = if x = zn h then (t, n) else zk h x := rfl
theorem zi_N (h : zH) (t n N x y : Nat) : zi (zN h t n N) x y = if x = zn h then 0 else zi h x y := rfl
theorem zr_N (h : zH) (t n N x y : Nat) : zr (zN h t n N) x y = if x = zn h then none else zr h x y := rfl
theorem zn_N (h : zH) (t n N : Nat) : zn (zN h t n N) = zn h + 1 := rfl
theorem zu_N (h : zH) (t n N : Nat) : zu (zN h t n N) = zu h + N := rfl
