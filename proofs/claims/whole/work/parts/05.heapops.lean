/-! steps that read and write locals and cells -/
theorem zfind_mem : ∀ {tab : List (Nat × Nat × Nat × String × String)} {t k : Nat}, zfind tab t = some k → ∃ q ∈ tab, q.1 = t ∧ q.2.1 = k
  | [], t, k, h => by simp [zfind] at h
  | q :: l, t, k, h => by
    unfold zfind at h
    split at h
    · rename_i hq
      exact ⟨q, List.mem_cons_self, hq, Option.some.inj h⟩
    · obtain ⟨r, h1, h2⟩ := zfind_mem h
      exact ⟨r, List.mem_cons_of_mem _ h1, h2⟩
theorem zS_self {A : Nat → Prop} {H0 H : Heap} {locs : List Loc} (h : va_S A H0 H locs) : va_S A H H locs := ⟨Nat.le_refl _, fun _ _ _ => rfl, h.2.2⟩
theorem zS_trans {A : Nat → Prop} {H0 H H1 : Heap} {locs locs1 : List Loc} (h : va_S A H0 H locs) (h2 : va_S A H H1 locs1) : va_S A H0 H1 locs1 :=
  ⟨Nat.le_trans h.1 h2.1, fun q hq ha => (h2.2.1 q (Nat.lt_of_lt_of_le hq h.1) ha).trans (h.2.1 q hq ha), h2.2.2⟩
theorem zix_some {i : Int32} {n j : Nat} (h : zix i n = some j) : vp_in i n ∧ i.toNatClampNeg = j := by
  unfold zix at h
  split at h
  · cases h
  · rename_i q
    exact ⟨q, Option.some.inj h⟩
/-- a field's words -/
def zFo (own : String) (i t k : Nat) : Prop := t < 12 ∧ k < zNF t ∧ ∃ ref, Cond.fieldLink own i ref (zF t k).2.1 (zF t k).2.2.1 ∈ zGood ∧ (ref = (zF t k).1 ∨ Cond.sameField ref (zF t k).1 (zF t k).2.1 (zF t k).2.2.1 ∈ zGood)
theorem zfv_get {b B : Nat} {h : zH} {a N k : Nat} (hk : k < N) : ((List.range N).map (zfv b B h a))[k]? = some (zfv b B h a k) := by
  rw [List.getElem?_map, List.getElem?_range hk]
  rfl
theorem zcell_obj {b B : Nat} {cA : Nat → ClassId} {h : zH} {a : Nat} (ht : (zk h a).1 < 12) : zcell b B cA h a = .inr ((zk h a).1, (List.range (zNF (zk h a).1)).map (zfv b B h a)) := by
  unfold zcell
  rw [if_pos ht]
theorem zcell_ints {b B : Nat} {cA : Nat → ClassId} {h : zH} {a : Nat} (ht : (zk h a).1 = 12) : zcell b B cA h a = .inl (cA 0, (zk h a).2, .inl (zi h a)) := by
  unfold zcell
  rw [if_neg (by omega), if_pos ht]
theorem zcell_refs {b B : Nat} {cA : Nat → ClassId} {h : zH} {a : Nat} (ht : 12 < (zk h a).1) : zcell b B cA h a = .inl (cA ((zk h a).1 - 12), (zk h a).2, .inr (.inr (.inr (.inr (fun j => (zr h a j).map (zadr b B)))))) := by
  unfold zcell
  rw [if_neg (by omega), if_neg (by omega)]
section ZHOPS
variable {p : Program} {l : Launch} {e : Env} {R : Room} {s : State} {m : MethodId} {args : Array Value} {below : List Frame} {meth : Method} {c : Code} {Q : State → Prop} {cc : ByteArray} {own nm : String} {nL b B L n0 u0 : Nat} {xs : Nat → Int32} {dC : Nat → ClassId} {dI : Nat → Nat → Nat} {cA : Nat → ClassId}
variable {pc : Nat} {ls : zL} {st : List zV} {h : zH} {y : zS}
theorem zsize {H : Heap} {locs : List Loc} {ce sl : Nat} {g : JFrame} (k : H.size ≤ s.heap.size + ce → W p l e R s m args below meth c H locs ce sl Q g) : W p l e R s m args below meth c H locs ce sl Q g :=
  fun T hT X => k (by rw [← hT]; exact X.same.2.2.1) T hT X
theorem zs_load {w k i : Nat} (hs : zload w k i pc ls st h = some (.inr y))
    (h0 : w = 0 → ∀ (v : Int32) (H : Heap) (locs : List Loc) (la : Array Slot) (ce sl : Nat) (r : List Value), la[i]? = some (.val (.int v)) → W p l e R s m args below meth c H locs ce sl Q (F0 m (pc + k) la (.int v :: r)) → W p l e R s m args below meth c H locs ce sl Q (F0 m pc la r))
    (h1 : w = 1 → ∀ (v : Int64) (H : Heap) (locs : List Loc) (la : Array Slot) (ce sl : Nat) (r : List Value), la[i]? = some (.val (.long v)) → W p l e R s m args below meth c H locs ce sl Q (F0 m (pc + k) la (.long v :: r)) → W p l e R s m args below meth c H locs ce sl Q (F0 m pc la r))
    (h2 : w = 2 → ∀ (v : Option Nat) (H : Heap) (locs : List Loc) (la : Array Slot) (ce sl : Nat) (r : List Value), la[i]? = some (.val (va_rf v)) → W p l e R s m args below meth c H locs ce sl Q (F0 m (pc + k) la (va_rf v :: r)) → W p l e R s m args below meth c H locs ce sl Q (F0 m pc la r))
    (hW : zWA p l e R s m args below meth c Q b B L xs dC dI cA n0 u0 nL y) : zWA p l e R s m args below meth c Q b B L xs dC dI cA n0 u0 nL (pc, ls, st, h) := by
  unfold zload at hs
  split at hs
  · rename_i v hv
    simp only [zpush, Option.some.injEq, Sum.inr.injEq] at hs
    subst hs
    intro H locs la hR hS hl
    exact h0 rfl v _ _ _ _ _ _ (hl.2.2.2 i _ (zld_iff.mp hv)) (hW H locs la hR hS hl)
  · rename_i v hv
    simp only [zpush, Option.some.injEq, Sum.inr.injEq] at hs
    subst hs
    intro H locs la hR hS hl
    exact h1 rfl v _ _ _ _ _ _ (hl.2.2.2 i _ (zld_iff.mp hv)) (hW H locs la hR hS hl)
  · rename_i v hv
    simp only [zpush, Option.some.injEq, Sum.inr.injEq] at hs
    subst hs
    intro H locs la hR hS hl
    exact h2 rfl (v.map (zadr b B)) _ _ _ _ _ _ (hl.2.2.2 i _ (zld_iff.mp hv)) (hW H locs la hR hS hl)
  · cases hs
theorem zs_store {w k i : Nat} (hs : zstore w k i pc ls st h = some (.inr y))
    (h0 : w = 0 → ∀ (v : Int32) (H : Heap) (locs : List Loc) (la : Array Slot) (ce sl : Nat) (r : List Value) (lv : List (Nat × Value)), lv_has la nL lv → i < nL → (∀ la', lv_has la' nL ((i, Value.int v) :: lv.filter (fun q => !(q.1 == i) && !(q.1 + 1 == i && q.2.category == 2))) → W p l e R s m args below meth c H locs ce sl Q (F0 m (pc + k) la' r)) → W p l e R s m args below meth c H locs ce sl Q (F0 m pc la (.int v :: r)))
    (h1 : w = 1 → ∀ (v : Int64) (H : Heap) (locs : List Loc) (la : Array Slot) (ce sl : Nat) (r : List Value) (lv : List (Nat × Value)), lv_has la nL lv → i + 1 < nL → (∀ la', lv_has la' nL ((i, Value.long v) :: lv.filter (fun q => !(q.1 == i) && (!(q.1 == i + 1) && !(q.1 + 1 == i && q.2.category == 2)))) → W p l e R s m args below meth c H locs ce sl Q (F0 m (pc + k) la' r)) → W p l e R s m args below meth c H locs ce sl Q (F0 m pc la (.long v :: r)))
    (h2 : w = 2 → ∀ (v : Option Nat) (H : Heap) (locs : List Loc) (la : Array Slot) (ce sl : Nat) (r : List Value) (lv : List (Nat × Value)), lv_has la nL lv → i < nL → (∀ la', lv_has la' nL ((i, va_rf v) :: lv.filter (fun q => !(q.1 == i) && !(q.1 + 1 == i && q.2.category == 2))) → W p l e R s m args below meth c H locs ce sl Q (F0 m (pc + k) la' r)) → W p l e R s m args below meth c H locs ce sl Q (F0 m pc la (va_rf v :: r)))
    (hW : zWA p l e R s m args below meth c Q b B L xs dC dI cA n0 u0 nL y) : zWA p l e R s m args below meth c Q b B L xs dC dI cA n0 u0 nL (pc, ls, st, h) := by
  unfold zstore at hs
  split at hs
  · rename_i v r
    split at hs
    · rename_i hi
      simp only [zgo, Option.some.injEq, Sum.inr.injEq] at hs
      subst hs
      intro H locs la hR hS hl
      have hi : i < nL := by rw [← hl.2.2.1]; exact hi
      exact h0 rfl v _ _ _ _ _ _ _ hl.has hi (fun la' h' => hW H locs la' hR hS (zLV.st1 (v := .inl v) hl.2.2.1 hi h'))
    · cases hs
  · rename_i v r
    split at hs
    · rename_i hi
      simp only [zgo, Option.some.injEq, Sum.inr.injEq] at hs
      subst hs
      intro H locs la hR hS hl
      have hi : i + 1 < nL := by rw [← hl.2.2.1]; exact hi
      exact h1 rfl v _ _ _ _ _ _ _ hl.has hi (fun la' h' => hW H locs la' hR hS (zLV.st2 (v := .inr (.inl v)) hl.2.2.1 hi h'))
    · cases hs
  · rename_i v r
    split at hs
    · rename_i hi
      simp only [zgo, Option.some.injEq, Sum.inr.injEq] at hs
      subst hs
      intro H locs la hR hS hl
      have hi : i < nL := by rw [← hl.2.2.1]; exact hi
      exact h2 rfl (v.map (zadr b B)) _ _ _ _ _ _ _ hl.has hi (fun la' h' => hW H locs la' hR hS (zLV.st1 (v := .inr (.inr v)) hl.2.2.1 hi h'))
    · cases hs
  · cases hs
theorem zs_inc (hx : p.tables.exec = Jvm.exec) (hb : c.code = cc) {i : Nat} {n : Int} (hdg : decode cc pc = .ok (.iinc i n, 3)) (hs : zinc i n pc ls st h = some (.inr y))
    (hW : zWA p l e R s m args below meth c Q b B L xs dC dI cA n0 u0 nL y) : zWA p l e R s m args below meth c Q b B L xs dC dI cA n0 u0 nL (pc, ls, st, h) := by
  unfold zinc at hs
  split at hs
  · rename_i v hv
    split at hs
    · rename_i hi
      simp only [zgo, Option.some.injEq, Sum.inr.injEq] at hs
      subst hs
      intro H locs la hR hS hl
      have hi : i < nL := by rw [← hl.2.2.1]; exact hi
      obtain ⟨k, hk⟩ := List.getElem?_of_mem (zas_mem (b := b) (B := B) (zld_iff.mp hv))
      exact lv_iinc hx hb hdg hl.has hk rfl hi rfl (fun la' h' => hW H locs la' hR hS (zLV.st1 (v := .inl (v + Int32.ofInt n)) hl.2.2.1 hi h'))
    · cases hs
  · cases hs
theorem zs_get (C : zCx p s m args meth c cc own nm nL b B L xs dC dI cA) {o : zO} {idx : Nat} (hdg : decode cc pc = .ok (.getfield idx, 3)) (ho : ∀ q ∈ o.2.2.2, zFo own idx q.1 q.2.1 ∧ (o.2.2.1 = 2 ↔ zisI (zTy q.1 q.2.1) = false)) (hs : zget o pc ls st h = some (.inr y))
    (hW : zWA p l e R s m args below meth c Q b B L xs dC dI cA n0 u0 nL y) : zWA p l e R s m args below meth c Q b B L xs dC dI cA n0 u0 nL (pc, ls, st, h) := by
  obtain ⟨hx, hb, hml, hown, hts, hK, -⟩ := C
  unfold zget at hs
  split at hs
  · rename_i a r
    cases hf : zfind o.2.2.2 (zk h a).1 with
    | none => rw [hf] at hs; cases hs
    | some k =>
      rw [hf, Option.bind_some] at hs
      obtain ⟨q, hq, e1, e2⟩ := zfind_mem hf
      obtain ⟨⟨ht, hk, ref, hl1, hl2⟩, hi⟩ := ho q hq
      rw [e1] at ht hk hl1 hl2 hi
      rw [e2] at hk hl1 hl2 hi
      intro H locs la hR hS hl
      have hR : zRep b B L xs dC dI cA h H := hR
      obtain ⟨a1, a2⟩ := hR.in (a := a) (by omega)
      have he := zws_get b B cA h a1 a2
      rw [zcell_obj ht] at he
      refine va_get (D := (dC, dI)) (ci := (zk h a).1) (v := zfv b B h a k) (C := zC (zk h a).1) (T := zF (zk h a).1) (N := zNF (zk h a).1) hx hb hts (zin_at _ ht) hown hK.1 hR.1 (a - 1) he (zcl_at _ ht) k hk (hts _ hl1) ?_ (zfv_get hk) hdg ?_
      · rcases hl2 with rfl | hl2
        · exact fun _ h9 => h9
        · exact u_same (hts _ hl2)
      · unfold zfv
        split at hs
        · rename_i h2
          simp only [zgo, Option.some.injEq, Sum.inr.injEq] at hs
          subst hs
          rw [if_neg (by rw [hi.mp h2]; decide)]
          exact hW H locs la hR hS hl
        · rename_i h2
          simp only [zgo, Option.some.injEq, Sum.inr.injEq] at hs
          subst hs
          rw [if_pos (by cases hz : zisI (zTy (zk h a).1 k) with | true => rfl | false => exact absurd (hi.mpr hz) h2)]
          exact hW H locs la hR hS hl
  · cases hs
/-- a store into a field, whatever its value -/
theorem zput_row (C : zCx p s m args meth c cc own nm nL b B L xs dC dI cA) (hn0 : s.heap.size + 1 = B + n0) {idx t k a : Nat} (hdg : decode cc pc = .ok (.putfield idx, 3)) (hF : zFo own idx t k) (hfin : (zF t k).2.2.2 = false ∨ ((zF t k).2.2.2 = true ∧ nm = "<init>" ∧ (zF t k).1 = own)) {h' : zH} {v : Value} (ht : (zk h a).1 = t)
    (hn : narrow (zTy t k) v = v) (hfit : fits (zTy t k) v = true) (g1 : zn h' = zn h) (g2 : zu h' = zu h) (g3 : ∀ x, zk h' x = zk h x) (g4 : ∀ x, x ≠ a → zcell b B cA h' x = zcell b B cA h x) (g5 : zfv b B h' a k = v) (g6 : ∀ j, j ≠ k → zfv b B h' a j = zfv b B h a j) (g7 : ∀ j, zi h' 0 j = zi h 0 j) (hle : n0 ≤ zn h)
    {H : Heap} {locs : List Loc} {la : Array Slot} {r : List Value} (hR : zRep b B L xs dC dI cA h H) (hS : va_S (fun q => B ≤ q) s.heap H locs)
    (hW : ∀ (H1 : Heap) (locs1 : List Loc), zRep b B L xs dC dI cA h' H1 → va_S (fun q => B ≤ q) s.heap H1 locs1 → W p l e R s m args below meth c H1 locs1 (zn h' - n0) (zu h' - u0) Q (F0 m (pc + 3) la r)) : W p l e R s m args below meth c H locs (zn h - n0) (zu h - u0) Q (F0 m pc la (v :: .ref (zadr b B a) :: r)) := by
  obtain ⟨hx, hb, hml, hown, hts, hK, -, -, -, -, hnm⟩ := C
  obtain ⟨ht2, hk, ref, hl1, hl2⟩ := hF
  subst ht
  obtain ⟨a1, a2⟩ := hR.in (a := a) (by omega)
  have he := zws_get b B cA h a1 a2
  rw [zcell_obj ht2] at he
  have hsame : ∀ x, s.fieldFound? (zF (zk h a).1 k).1 (zF (zk h a).1 k).2.1 (zF (zk h a).1 k).2.2.1 = some x → s.fieldFound? ref (zF (zk h a).1 k).2.1 (zF (zk h a).1 k).2.2.1 = some x := by
    rcases hl2 with rfl | hl2
    · exact fun _ h9 => h9
    · exact u_same (hts _ hl2)
  have hset : ((List.range (zNF (zk h a).1)).map (zfv b B h a)).set k v = (List.range (zNF (zk h a).1)).map (zfv b B h' a) := by
    apply List.ext_getElem?
    intro j
    by_cases hj : j = k
    · subst hj
      rw [List.getElem?_set_self (by simpa using hk), zfv_get hk, g5]
    · rw [List.getElem?_set_ne (Ne.symm hj)]
      by_cases hj2 : j < zNF (zk h a).1
      · rw [zfv_get hj2, zfv_get hj2, g6 j hj]
      · rw [List.getElem?_eq_none (by simpa using hj2), List.getElem?_eq_none (by simpa using hj2)]
  have fin : ∀ (H1 : Heap) (locs1 : List Loc), va_P (dC, dI) vwCl ((zws b B cA h).set (a - 1) (zadr b B a, .inr ((zk h a).1, ((List.range (zNF (zk h a).1)).map (zfv b B h a)).set k v))) H1 → va_S (fun q => B ≤ q) H H1 locs1 → W p l e R s m args below meth c H1 locs1 (zn h - n0) (zu h - u0) Q (F0 m (pc + 3) la r) := by
    intro H1 locs1 hP1 hS1
    refine zsize fun hz => ?_
    rw [← g1, ← g2]
    have hz2 : H1.size = H.size := by
      have := hS1.1
      have := hR.2.1
      omega
    refine hW H1 locs1 (hR.put (a := a) (by omega) g1 g3 g4 g7 hz2 ?_) (zS_trans hS hS1)
    rw [hset] at hP1
    rw [zcell_obj (h := h') (by rw [g3]; exact ht2), g3]
    exact hP1
  rcases hfin with hfin | ⟨hfin, hni, hdecl⟩
  · exact va_put (D := (dC, dI)) (ci := (zk h a).1) (v := v) (ty := zTy (zk h a).1 k) (C := zC (zk h a).1) (T := zF (zk h a).1) (N := zNF (zk h a).1) hx hb hts (zin_at _ ht2) (zTy (zk h a).1) (zty_at _ ht2) (znm_at _ ht2) hown hK.1 hR.1 (zws_D b B cA h) (zS_self hS) (a - 1) he (zcl_at _ ht2) k hk (hts _ hl1) hsame hfin (zty_at _ ht2 k hk) hn hfit (by simpa using hk) hdg (fun H1 locs1 hP1 _ hS1 => fin H1 locs1 hP1 hS1)
  · exact va_putF (D := (dC, dI)) (ci := (zk h a).1) (v := v) (ty := zTy (zk h a).1 k) (C := zC (zk h a).1) (T := zF (zk h a).1) (N := zNF (zk h a).1) hx hb hts (zin_at _ ht2) (zTy (zk h a).1) (zty_at _ ht2) (znm_at _ ht2) hown hK.1 hR.1 (zws_D b B cA h) (zS_self hS) (a - 1) he (zcl_at _ ht2) k hk (hts _ hl1) hsame hfin (by rw [hnm]; exact hni) hdecl (zty_at _ ht2 k hk) hn hfit (by simpa using hk) hdg (fun H1 locs1 hP1 _ hS1 => fin H1 locs1 hP1 hS1)
theorem zs_put (C : zCx p s m args meth c cc own nm nL b B L xs dC dI cA) (hn0 : s.heap.size + 1 = B + n0) (hle : n0 ≤ zn h) {o : zO} {idx : Nat} (hdg : decode cc pc = .ok (.putfield idx, 3))
    (ho : ∀ q ∈ o.2.2.2, zFo own idx q.1 q.2.1 ∧ ((zF q.1 q.2.1).2.2.2 = false ∨ ((zF q.1 q.2.1).2.2.2 = true ∧ nm = "<init>" ∧ (zF q.1 q.2.1).1 = own)) ∧ (o.2.2.1 = 0 → zTy q.1 q.2.1 = .int) ∧ (o.2.2.1 = 1 → zTy q.1 q.2.1 = .boolean) ∧ (o.2.2.1 = 2 → (∃ C, zTy q.1 q.2.1 = .object C) ∨ ∃ t, zTy q.1 q.2.1 = .array t)) (hs : zput o pc ls st h = some (.inr y))
    (hW : zWA p l e R s m args below meth c Q b B L xs dC dI cA n0 u0 nL y) : zWA p l e R s m args below meth c Q b B L xs dC dI cA n0 u0 nL (pc, ls, st, h) := by
  unfold zput at hs
  split at hs
  · rename_i v a r
    cases hf : zfind o.2.2.2 (zk h a).1 with
    | none => rw [hf] at hs; cases hs
    | some k =>
      rw [hf, Option.bind_some] at hs
      obtain ⟨q, hq, e1, e2⟩ := zfind_mem hf
      obtain ⟨hF, hfin, f0, f1, -⟩ := ho q hq
      rw [e1, e2] at hF hfin f0 f1
      split at hs
      · rename_i hv
        simp only [zgo, Option.some.injEq, Sum.inr.injEq] at hs
        subst hs
        intro H locs la hR hS hl
        have hR : zRep b B L xs dC dI cA h H := hR
        have hI : zisI (zTy (zk h a).1 k) = true := by
          rcases hv with hv | ⟨hv, -⟩
          · rw [f0 hv]; rfl
          · rw [f1 hv]; rfl
        have ha : a ≠ 0 := by
          have := (hR.in (a := a) (by have := hF.1; omega)).1
          omega
        refine zput_row C hn0 (h' := zwI h a k v) (v := .int v) hdg hF hfin rfl ?_ ?_ rfl rfl (fun _ => rfl) ?_ ?_ ?_ ?_ hle hR hS (fun H1 locs1 hR1 hS1 => hW H1 locs1 la hR1 hS1 hl)
        · rcases hv with hv | ⟨hv, rfl | rfl⟩
          · rw [f0 hv]; rfl
          · rw [f1 hv]; decide
          · rw [f1 hv]; decide
        · rcases hv with hv | ⟨hv, rfl | rfl⟩
          · rw [f0 hv]; rfl
          · rw [f1 hv]; decide
          · rw [f1 hv]; decide
        · intro x hx
          have e : ∀ j, zi (zwI h a k v) x j = zi h x j := fun j => by rw [zi_wI, if_neg (fun z => hx z.1)]
          have e3 : zi (zwI h a k v) x = zi h x := funext e
          have e4 : zfv b B (zwI h a k v) x = zfv b B h x := funext fun j => by unfold zfv; rw [zk_wI, zr_wI, e]
          unfold zcell
          rw [zk_wI, e3, e4]
          rfl
        · unfold zfv
          rw [zk_wI, if_pos hI, zi_wI, if_pos ⟨rfl, rfl⟩]
        · intro j hj
          have e : zi (zwI h a k v) a j = zi h a j := by rw [zi_wI, if_neg (fun z => hj z.2)]
          unfold zfv
          rw [zk_wI, zr_wI, e]
        · intro j
          rw [zi_wI, if_neg (fun z => ha z.1.symm)]
      · cases hs
  · rename_i q0 a r
    cases hf : zfind o.2.2.2 (zk h a).1 with
    | none => rw [hf] at hs; cases hs
    | some k =>
      rw [hf, Option.bind_some] at hs
      obtain ⟨q, hq, e1, e2⟩ := zfind_mem hf
      obtain ⟨hF, hfin, -, -, f2⟩ := ho q hq
      rw [e1, e2] at hF hfin f2
      split at hs
      · rename_i hv
        simp only [zgo, Option.some.injEq, Sum.inr.injEq] at hs
        subst hs
        intro H locs la hR hS hl
        have hR : zRep b B L xs dC dI cA h H := hR
        have hI : zisI (zTy (zk h a).1 k) = false := by
          rcases f2 hv with ⟨C, h1⟩ | ⟨C, h1⟩ <;> rw [h1] <;> rfl
        refine zput_row C hn0 (h' := zwR h a k q0) (v := va_rf (q0.map (zadr b B))) hdg hF hfin rfl ?_ ?_ rfl rfl (fun _ => rfl) ?_ ?_ ?_ (fun _ => rfl) hle hR hS (fun H1 locs1 hR1 hS1 => hW H1 locs1 la hR1 hS1 hl)
        · rcases f2 hv with ⟨C, h1⟩ | ⟨C, h1⟩ <;> rw [h1] <;> cases q0 <;> rfl
        · rcases f2 hv with ⟨C, h1⟩ | ⟨C, h1⟩ <;> rw [h1] <;> cases q0 <;> rfl
        · intro x hx
          have e : ∀ j, zr (zwR h a k q0) x j = zr h x j := fun j => by rw [zr_wR, if_neg (fun z => hx z.1)]
          have e3 : (fun j => (zr (zwR h a k q0) x j).map (zadr b B)) = (fun j => (zr h x j).map (zadr b B)) := funext fun j => by rw [e]
          have e4 : zfv b B (zwR h a k q0) x = zfv b B h x := funext fun j => by unfold zfv; rw [zk_wR, zi_wR, e]
          unfold zcell
          rw [zk_wR, e3, e4]
          rfl
        · unfold zfv
          rw [zk_wR, if_neg (by rw [hI]; decide), zr_wR, if_pos ⟨rfl, rfl⟩]
        · intro j hj
          have e : zr (zwR h a k q0) a j = zr h a j := by rw [zr_wR, if_neg (fun z => hj z.2)]
          unfold zfv
          rw [zk_wR, zi_wR, e]
      · cases hs
  · cases hs
/-- arrays -/
theorem zs_ald (C : zCx p s m args meth c cc own nm nL b B L xs dC dI cA) (hdg : decode cc pc = .ok (.iaload, 1)) (hs : zald pc ls st h = some (.inr y))
    (hW : zWA p l e R s m args below meth c Q b B L xs dC dI cA n0 u0 nL y) : zWA p l e R s m args below meth c Q b B L xs dC dI cA n0 u0 nL (pc, ls, st, h) := by
  obtain ⟨hx, hb, hml, hown, hts, hK, hX, hbB, hBs, -⟩ := C
  unfold zald at hs
  split at hs
  · rename_i i a r
    split at hs
    · rename_i ht
      cases hj : zix i (zk h a).2 with
      | none => rw [hj] at hs; cases hs
      | some j =>
        rw [hj, Option.bind_some] at hs
        simp only [zgo, Option.some.injEq, Sum.inr.injEq] at hs
        subst hs
        obtain ⟨hin, hjj⟩ := zix_some hj
        intro H locs la hR hS hl
        have hR : zRep b B L xs dC dI cA h H := hR
        rcases ht with ht | ht
        · obtain ⟨a1, a2⟩ := hR.in (a := a) (by omega)
          have he := zws_get b B cA h a1 a2
          rw [zcell_ints ht] at he
          refine va_iald (D := (dC, dI)) hx hb hK.1 hR.1 (a - 1) 0 he rfl hin hdg ?_
          rw [hjj]
          exact hW H locs la hR hS hl
        · have a0 : a = 0 := by
            rcases Nat.eq_zero_or_pos a with q | q
            · exact q
            · rcases Nat.lt_or_ge a (zn h) with z | z
              · have := hR.2.2.2.2.1 a q z
                omega
              · have := hR.2.2.2.1 a z
                omega
          subst a0
          have hk := hR.2.2.2.2.2.1
          rw [hk] at hin
          have hlt : j < L := by
            rw [← hjj]
            exact Nat.not_le.mp fun q => hin (Or.inr q)
          have K := hW H locs la hR hS hl
          refine va_sld (A := fun q => B ≤ q) (b := b) (L := L) hx hb hX (Nat.lt_of_lt_of_le hbB hBs) (Nat.not_le.mpr hbB) hS hin hdg ?_
          rw [hjj, ← hR.2.2.2.2.2.2 j hlt]
          exact K
    · cases hs
  · cases hs
theorem zs_alen (C : zCx p s m args meth c cc own nm nL b B L xs dC dI cA) (hdg : decode cc pc = .ok (.arraylength, 1)) (hs : zalen pc ls st h = some (.inr y))
    (hW : zWA p l e R s m args below meth c Q b B L xs dC dI cA n0 u0 nL y) : zWA p l e R s m args below meth c Q b B L xs dC dI cA n0 u0 nL (pc, ls, st, h) := by
  obtain ⟨hx, hb, hml, hown, hts, hK, hX, hbB, hBs, -⟩ := C
  unfold zalen at hs
  split at hs
  · rename_i a r
    split at hs
    · rename_i ht
      simp only [zgo, Option.some.injEq, Sum.inr.injEq] at hs
      subst hs
      intro H locs la hR hS hl
      have hR : zRep b B L xs dC dI cA h H := hR
      rcases Nat.lt_or_ge (zk h a).1 16 with h16 | h16
      · obtain ⟨a1, a2⟩ := hR.in (a := a) h16
        have he := zws_get b B cA h a1 a2
        rcases Nat.lt_or_ge 12 (zk h a).1 with q | q
        · rw [zcell_refs q] at he
          rcases (show (zk h a).1 = 13 ∨ (zk h a).1 = 14 ∨ (zk h a).1 = 15 by omega) with z | z | z
          · rw [z] at he
            exact va_alen (D := (dC, dI)) hx hb hK.1 hR.1 (a - 1) 1 he rfl rfl hdg (hW H locs la hR hS hl)
          · rw [z] at he
            exact va_alen (D := (dC, dI)) hx hb hK.1 hR.1 (a - 1) 2 he rfl rfl hdg (hW H locs la hR hS hl)
          · rw [z] at he
            exact va_alen (D := (dC, dI)) hx hb hK.1 hR.1 (a - 1) 3 he rfl rfl hdg (hW H locs la hR hS hl)
        · rw [zcell_ints (by omega)] at he
          exact va_alen (D := (dC, dI)) hx hb hK.1 hR.1 (a - 1) 0 he rfl rfl hdg (hW H locs la hR hS hl)
      · have a0 : a = 0 := by
          rcases Nat.eq_zero_or_pos a with q | q
          · exact q
          · rcases Nat.lt_or_ge a (zn h) with z | z
            · have := hR.2.2.2.2.1 a q z
              omega
            · have := hR.2.2.2.1 a z
              omega
        subst a0
        have K := hW H locs la hR hS hl
        have hk := hR.2.2.2.2.2.1
        dsimp only at K
        rw [hk] at K
        exact va_slen (A := fun q => B ≤ q) (b := b) (L := L) hx hb hX (Nat.lt_of_lt_of_le hbB hBs) (Nat.not_le.mpr hbB) hS hdg K
    · cases hs
  · cases hs
theorem zs_ast (C : zCx p s m args meth c cc own nm nL b B L xs dC dI cA) (hn0 : s.heap.size + 1 = B + n0) (hle : n0 ≤ zn h) (hdg : decode cc pc = .ok (.iastore, 1)) (hs : zast pc ls st h = some (.inr y))
    (hW : zWA p l e R s m args below meth c Q b B L xs dC dI cA n0 u0 nL y) : zWA p l e R s m args below meth c Q b B L xs dC dI cA n0 u0 nL (pc, ls, st, h) := by
  obtain ⟨hx, hb, hml, hown, hts, hK, -⟩ := C
  unfold zast at hs
  split at hs
  · rename_i v i a r
    split at hs
    · rename_i ht
      cases hj : zix i (zk h a).2 with
      | none => rw [hj] at hs; cases hs
      | some j =>
        rw [hj, Option.bind_some] at hs
        simp only [zgo, Option.some.injEq, Sum.inr.injEq] at hs
        subst hs
        obtain ⟨hin, hjj⟩ := zix_some hj
        intro H locs la hR hS hl
        have hR : zRep b B L xs dC dI cA h H := hR
        obtain ⟨a1, a2⟩ := hR.in (a := a) (by omega)
        have he := zws_get b B cA h a1 a2
        rw [zcell_ints ht] at he
        refine va_iast (D := (dC, dI)) hx hb hK.1 hR.1 (zws_D b B cA h) (zS_self hS) (a - 1) 0 he rfl hin hdg (fun H1 locs1 hP1 _ hS1 => zsize fun hz => ?_)
        have hz : H1.size ≤ s.heap.size + (zn h - n0) := hz
        have hz2 : H1.size = H.size := by
          have := hS1.1
          have := hR.2.1
          omega
        refine hW H1 locs1 la (hR.put (a := a) (h' := zwI h a j v) (by omega) rfl (fun _ => rfl) ?_ ?_ hz2 ?_) (zS_trans hS hS1) hl
        · intro x hx
          have e : ∀ j', zi (zwI h a j v) x j' = zi h x j' := fun j' => by rw [zi_wI, if_neg (fun z => hx z.1)]
          have e3 : zi (zwI h a j v) x = zi h x := funext e
          have e4 : zfv b B (zwI h a j v) x = zfv b B h x := funext fun j' => by unfold zfv; rw [zk_wI, zr_wI, e]
          unfold zcell
          rw [zk_wI, e3, e4]
          rfl
        · intro j'
          rw [zi_wI, if_neg (fun z => by omega)]
        · rw [zcell_ints (h := zwI h a j v) ht]
          have e5 : zi (zwI h a j v) a = upd (zi h a) i.toNatClampNeg v := by
            funext j'
            rw [zi_wI, hjj]
            unfold upd
            by_cases q : j' = j
            · rw [if_pos ⟨rfl, q⟩, if_pos q]
            · rw [if_neg (fun z => q z.2), if_neg q]
          rw [e5]
          exact hP1
    · cases hs
  · cases hs
theorem zs_aald (C : zCx p s m args meth c cc own nm nL b B L xs dC dI cA) (hdg : decode cc pc = .ok (.aaload, 1)) (hs : zaald pc ls st h = some (.inr y))
    (hW : zWA p l e R s m args below meth c Q b B L xs dC dI cA n0 u0 nL y) : zWA p l e R s m args below meth c Q b B L xs dC dI cA n0 u0 nL (pc, ls, st, h) := by
  obtain ⟨hx, hb, hml, hown, hts, hK, -⟩ := C
  unfold zaald at hs
  split at hs
  · rename_i i a r
    split at hs
    · rename_i ht
      cases hj : zix i (zk h a).2 with
      | none => rw [hj] at hs; cases hs
      | some j =>
        rw [hj, Option.bind_some] at hs
        simp only [zgo, Option.some.injEq, Sum.inr.injEq] at hs
        subst hs
        obtain ⟨hin, hjj⟩ := zix_some hj
        intro H locs la hR hS hl
        have hR : zRep b B L xs dC dI cA h H := hR
        obtain ⟨a1, a2⟩ := hR.in (a := a) (by omega)
        have he := zws_get b B cA h a1 a2
        rw [zcell_refs (by omega)] at he
        have K := hW H locs la hR hS hl
        rw [← hjj] at K
        rcases (show (zk h a).1 = 13 ∨ (zk h a).1 = 14 ∨ (zk h a).1 = 15 by omega) with z | z | z
        · rw [z] at he
          exact va_aldq (D := (dC, dI)) hx hb hK.1 hR.1 (a - 1) 1 he rfl hin hdg K
        · rw [z] at he
          exact va_aldq (D := (dC, dI)) hx hb hK.1 hR.1 (a - 1) 2 he rfl hin hdg K
        · rw [z] at he
          exact va_aldq (D := (dC, dI)) hx hb hK.1 hR.1 (a - 1) 3 he rfl hin hdg K
    · cases hs
  · cases hs
end ZHOPS
