/-! steps that make cells; arrays of references; instanceof; arraycopy -/
theorem ztys_at (cA : Nat → ClassId) : ∀ t, 13 ≤ t → t ≤ 15 → (ztys cA)[t - 12]? = some (cA (t - 12), .object (zC (if t = 13 then 8 else if t = 14 then 4 else 7))) := by
  intro t h1 h2
  rcases (show t = 13 ∨ t = 14 ∨ t = 15 by omega) with rfl | rfl | rfl <;> rfl
theorem zcast_in1 : Cond.castable RX0 RX8 ∈ lw_tbl := by decide +kernel
theorem zcast_in2 : Cond.castable RX5 RX8 ∈ lw_tbl := by decide +kernel
theorem zcast_in3 : Cond.castable RX5 RX0 ∈ lw_tbl := by decide +kernel
def zokT (ty : FieldType) : Bool := match ty with
  | .int => true
  | .boolean => true
  | .object _ => true
  | .array _ => true
  | _ => false
theorem zokT_at : ∀ t, t < 12 → ∀ k, k < zNF t → zokT (zTy t k) = true := zcases (by decide) (by decide) (by decide) (by decide) (by decide) (by decide) (by decide) (by decide) (by decide) (by decide) (by decide) (by decide)
theorem zcatsum0 (b B : Nat) (r : List zV) (h : r.length ≤ 4) : ((r.map (ztr b B)).map fun v => v.category).sum ≤ 8 := by
  have key : ∀ r : List zV, ((r.map (ztr b B)).map fun v => v.category).sum ≤ 2 * r.length := by
    intro r
    induction r with
    | nil => simp
    | cons v r ih =>
      have : (ztr b B v).category ≤ 2 := by rcases lv_cat (ztr b B v) with q | q <;> omega
      simp only [List.map_cons, List.sum_cons, List.length_cons]
      omega
  have := key r
  omega
section ZMOPS
variable {p : Program} {l : Launch} {e : Env} {R : Room} {s : State} {m : MethodId} {args : Array Value} {below : List Frame} {meth : Method} {c : Code} {Q : State → Prop} {cc : ByteArray} {own nm : String} {nL b B L n0 u0 : Nat} {xs : Nat → Int32} {dC : Nat → ClassId} {dI : Nat → Nat → Nat} {cA : Nat → ClassId}
variable {pc : Nat} {ls : zL} {st : List zV} {h : zH} {y : zS}
/-- the class of an object is the class that its array's component names, or can be cast to it -/
theorem zasg (hK : zK dC dI cA s) {t q : Nat} (h1 : 13 ≤ t) (h2 : t ≤ 15) (hf : zfit t q = true) : q < 12 ∧ ∀ comp, s.vm.findClass (zC (if t = 13 then 8 else if t = 14 then 4 else 7)) = some comp → s.vm.assignable (dC q) comp = true := by
  have hat : ∀ k, k < 12 → ClassAt s (zC k) (dC k) := fun k hk => (hK.1.1 k _ (zcl_at k hk)).2
  have hself : ∀ k, k < 12 → ∀ comp, s.vm.findClass (zC k) = some comp → s.vm.assignable (dC k) comp = true := by
    intro k hk comp hc
    have h3 := hat k hk
    cases h3.1.symm.trans hc
    exact va_assign h3
  rcases (show t = 13 ∨ t = 14 ∨ t = 15 by omega) with rfl | rfl | rfl
  · have : q = 8 ∨ q = 0 ∨ q = 5 := by
      simp [zfit] at hf
      omega
    rcases this with rfl | rfl | rfl
    · exact ⟨by decide, hself 8 (by decide)⟩
    · exact ⟨by decide, fun comp hc => vb_asgC (hK.2.1 _ zcast_in1 rfl) comp (dC 0) hc (hat 0 (by decide)).1⟩
    · exact ⟨by decide, fun comp hc => vb_asgC (hK.2.1 _ zcast_in2 rfl) comp (dC 5) hc (hat 5 (by decide)).1⟩
  · have : q = 4 := by simpa [zfit] using hf
    subst this
    exact ⟨by decide, hself 4 (by decide)⟩
  · have : q = 7 := by simpa [zfit] using hf
    subst this
    exact ⟨by decide, hself 7 (by decide)⟩
theorem zfit_in {t q : Nat} (hf : zfit t q = true) : 13 ≤ t ∧ t ≤ 15 := by
  simp [zfit] at hf
  omega
theorem zs_aast (C : zCx p s m args meth c cc own nm nL b B L xs dC dI cA) (hn0 : s.heap.size + 1 = B + n0) (hle : n0 ≤ zn h) (hdg : decode cc pc = .ok (.aastore, 1)) (hs : zaast pc ls st h = some (.inr y))
    (hW : zWA p l e R s m args below meth c Q b B L xs dC dI cA n0 u0 nL y) : zWA p l e R s m args below meth c Q b B L xs dC dI cA n0 u0 nL (pc, ls, st, h) := by
  obtain ⟨hx, hb, hml, hown, hts, hK, -⟩ := C
  unfold zaast at hs
  split at hs
  · rename_i q i a r
    split at hs
    · rename_i ht
      cases hj : zix i (zk h a).2 with
      | none => rw [hj] at hs; cases hs
      | some j =>
        rw [hj, Option.bind_some] at hs
        simp only [zgo, Option.some.injEq, Sum.inr.injEq] at hs
        subst hs
        obtain ⟨hin, hjj⟩ := zix_some hj
        obtain ⟨t1, t2⟩ := zfit_in ht
        obtain ⟨hq, hasg⟩ := zasg hK t1 t2 ht
        intro H locs la hR hS hl
        have hR : zRep b B L xs dC dI cA h H := hR
        obtain ⟨a1, a2⟩ := hR.in (a := a) (by omega)
        obtain ⟨q1, q2⟩ := hR.in (a := q) (by omega)
        have he := zws_get b B cA h a1 a2
        have hv := zws_get b B cA h q1 q2
        rw [zcell_refs (by omega)] at he
        rw [zcell_obj hq] at hv
        have hlt : i.toNatClampNeg < (zk h a).2 := Nat.not_le.mp fun z => hin (Or.inr z)
        have h0 : ¬ i < 0 := fun z => hin (Or.inl z)
        obtain ⟨r', hr', cellV, g1, g2, g3, -⟩ := hR.1 _ _ hv
        obtain ⟨kA, comp, k1, k2, k3, -⟩ := (hK.1.2 _ _ (ztys_at cA _ t1 t2)).2
        have hcell := hR.1 _ _ he
        have hcl : ∃ kC, s.vm.classes[dC (zk h q).1]? = some kC := by
          obtain ⟨kC, hkC, -⟩ := (hK.1.1 _ _ (zcl_at _ hq)).2.2
          exact ⟨kC, hkC⟩
        obtain ⟨kC, hkC⟩ := hcl
        obtain ⟨kcomp, hkcomp, -⟩ := Vm.findClass_spec k3
        refine W.aast hx hb hcell (fun z h => by cases h) (fun h => by cases h) k1 k2 rfl hkcomp ⟨h0, by show _ < (arrV _ _ _).slots.size; rw [arrV_size]; exact hlt⟩ g1 (fun z h => by rw [g3] at h; cases h) (by rw [g2]; exact hkC) (by rw [g2]; exact hasg comp k3) rfl rfl hdg fun H1 e1 z1 oq => ?_
        have hS1 : va_S (fun q => B ≤ q) s.heap H1 (locs ++ [⟨zadr b B a, i.toNatClampNeg⟩]) := hS.put z1 oq ((zws_D b B cA h).2 _ _ he)
        have hPset := hR.1.set (zws_D b B cA h) he (e := zcell b B cA (zwR h a j (some q)) a) (H1 := H1) ?_ oq
        · refine hW H1 _ la (hR.put (a := a) (h' := zwR h a j (some q)) (by omega) rfl (fun _ => rfl) ?_ (fun _ => rfl) z1 hPset) hS1 hl
          intro x hx
          have e : ∀ j', zr (zwR h a j (some q)) x j' = zr h x j' := fun j' => by rw [zr_wR, if_neg (fun z => hx z.1)]
          have e3 : (fun j' => (zr (zwR h a j (some q)) x j').map (zadr b B)) = (fun j' => (zr h x j').map (zadr b B)) := funext fun j' => by rw [e]
          have e4 : zfv b B (zwR h a j (some q)) x = zfv b B h x := funext fun j' => by unfold zfv; rw [zk_wR, zi_wR, e]
          unfold zcell
          rw [zk_wR, e3, e4]
          rfl
        · rw [zcell_refs (h := zwR h a j (some q)) (by rw [zk_wR]; omega)]
          show H1[_]? = some (vp_cell _ _)
          rw [e1, vp_cell_q, vp_cell_q, arrV_store, zk_wR]
          congr 2
          funext z
          rw [zr_wR, hjj]
          unfold updV
          by_cases hz : z = j
          · rw [if_pos hz, if_pos ⟨rfl, hz⟩]
            rfl
          · rw [if_neg hz, if_neg (fun w => hz w.2)]
    · cases hs
  · cases hs
/-- a new cell behind all others -/
theorem zRep.push {H H1 : Heap} (r : zRep b B L xs dC dI cA h H) {t n N : Nat} (ht : t < 16) (hz : H1.size = H.size + 1) (ho : ∀ q, q < H.size → H1[q]? = H[q]?) (hc : va_at (dC, dI) vwCl (H.size, zcell b B cA (zN h t n N) (zn h)) H1) : zRep b B L xs dC dI cA (zN h t n N) H1 := by
  obtain ⟨r1, r2, r3, r4, r5, r6, r7⟩ := r
  have hcell : ∀ x, x < zn h → zcell b B cA (zN h t n N) x = zcell b B cA h x := by
    intro x hx
    have e1 : zk (zN h t n N) x = zk h x := by rw [zk_N, if_neg (by omega)]
    have e2 : zi (zN h t n N) x = zi h x := funext fun j => by rw [zi_N, if_neg (by omega)]
    have e3 : ∀ j, zr (zN h t n N) x j = zr h x j := fun j => by rw [zr_N, if_neg (by omega)]
    have e4 : zfv b B (zN h t n N) x = zfv b B h x := funext fun j => by unfold zfv; rw [e1, e2, e3]
    have e5 : (fun j => (zr (zN h t n N) x j).map (zadr b B)) = (fun j => (zr h x j).map (zadr b B)) := funext fun j => by rw [e3]
    unfold zcell
    rw [e1, e2, e4, e5]
  have hws : zws b B cA (zN h t n N) = zws b B cA h ++ [(H.size, zcell b B cA (zN h t n N) (zn h))] := by
    unfold zws
    rw [zn_N, show zn h + 1 - 1 = (zn h - 1) + 1 by omega, List.range_succ, List.map_append]
    congr 1
    · apply List.map_congr_left
      intro k hk
      have := List.mem_range.mp hk
      rw [hcell (k + 1) (by omega)]
    · simp only [List.map_cons, List.map_nil]
      rw [show B + (zn h - 1) = H.size by omega, show zn h - 1 + 1 = zn h by omega]
  refine ⟨?_, by rw [zn_N]; omega, by rw [zn_N]; omega, fun a ha => ?_, fun a ha ha2 => ?_, by rw [zk_N, if_neg (by omega)]; exact r6, fun j hj => by rw [zi_N, if_neg (by omega)]; exact r7 j hj⟩
  · rw [hws]
    refine va_P.app (r1.kept fun k x hx => ho x.1 ((r1 k x hx).lt)) (fun k x hx => ?_)
    have hz : k < 1 := (List.getElem?_eq_some_iff.mp hx).1
    rw [show k = 0 by omega] at hx
    cases hx
    exact hc
  · rw [zn_N] at ha
    rw [zk_N, if_neg (by omega)]
    exact r4 a (by omega)
  · rw [zn_N] at ha2
    rw [zk_N]
    split
    · exact ht
    · exact r5 a ha (by omega)
theorem zdef (t k : Nat) (ht : t < 12) (hk : k < zNF t) (h0 : zH) (N : Nat) : defaultValue (zTy t k) = zfv b B (zN h0 t 0 N) (zn h0) k := by
  have e : ∀ ty : FieldType, (ty = .int ∨ ty = .boolean ∨ (∃ C, ty = .object C) ∨ ∃ u, ty = .array u) → defaultValue ty = if zisI ty = true then Value.int 0 else va_rf ((none : Option Nat).map (zadr b B)) := by
    rintro ty (rfl | rfl | ⟨C, rfl⟩ | ⟨u, rfl⟩) <;> rfl
  have e2 : zTy t k = .int ∨ zTy t k = .boolean ∨ (∃ C, zTy t k = .object C) ∨ ∃ u, zTy t k = .array u := by
    have h3 := zokT_at t ht k hk
    cases hz : zTy t k <;> rw [hz] at h3 <;> simp [zokT] at h3 <;> simp
  rw [e _ e2]
  unfold zfv
  rw [zk_N, if_pos rfl, zi_N, if_pos rfl, zr_N, if_pos rfl]
theorem zs_new (C : zCx p s m args meth c cc own nm nL b B L xs dC dI cA) (hn0 : s.heap.size + 1 = B + n0) (hle : n0 ≤ zn h) (hu : u0 ≤ zu h) {o : zO} {idx : Nat} (hdg : decode cc pc = .ok (.new idx, 3)) (ho : ∀ q ∈ o.2.2.2, q.1 < 12 ∧ q.2.1 = zNF q.1 ∧ Cond.classLink own idx (zC q.1) ∈ zGood ∧ Cond.instantiable (zC q.1) (zNF q.1) ∈ zGood ∧ Cond.initialized (zC q.1) ∈ zGood) (hs : znew o pc ls st h = some (.inr y))
    (hc : zn y.2.2.2 - n0 ≤ R.cells) (hsl : zu y.2.2.2 - u0 ≤ R.slots)
    (hW : zWA p l e R s m args below meth c Q b B L xs dC dI cA n0 u0 nL y) : zWA p l e R s m args below meth c Q b B L xs dC dI cA n0 u0 nL (pc, ls, st, h) := by
  obtain ⟨hx, hb, hml, hown, hts, hK, -⟩ := C
  unfold znew at hs
  split at hs
  · rename_i q hq
    obtain ⟨ht, hN, w1, w2, w3⟩ := ho q (by rw [hq]; exact List.mem_singleton.mpr rfl)
    simp only [zgo, Option.some.injEq, Sum.inr.injEq] at hs
    subst hs
    dsimp only at hc hsl
    rw [zn_N] at hc
    rw [zu_N, hN] at hsl
    intro H locs la hR hS hl
    have hR : zRep b B L xs dC dI cA h H := hR
    have hKn := hK.1.1 _ _ (zcl_at _ ht)
    refine W.newcK hx hb hown (hts _ w1) (hts _ w2) (hts _ w3) rfl hdg (cells := zn h - n0) (slots := zu h - u0) (by omega) (by omega) hKn.2.1 rfl fun H1 kC hkC e1 z1 o1 => ?_
    have hadr : zadr b B (zn h) = H.size := by
      have := hR.2.1
      have := hR.2.2.1
      rw [zadr_pos this]
      omega
    have K := hW H1 locs la (hR.push (t := q.1) (n := 0) (N := q.2.1) (by omega) z1 o1 ?_) ⟨Nat.le_trans hS.1 (by omega), fun x h1 h2 => (o1 x (Nat.lt_of_lt_of_le h1 hS.1)).trans (hS.2.1 x h1 h2), hS.2.2⟩ hl
    · dsimp only at K
      rw [zn_N, zu_N, hN] at K
      refine W.cs (cells' := zn h + 1 - n0) (slots' := zu h + zNF q.1 - u0) (by omega) (by omega) ?_
      have e5 : (ztr b B (.inr (.inr (some (zn h)))) : Value) = .ref H.size := by
        show va_rf (some (zadr b B (zn h))) = _
        rw [hadr]
        rfl
      rw [List.map_cons, e5] at K
      exact K
    · rw [zcell_obj (by rw [zk_N, if_pos rfl]; exact ht), zk_N, if_pos rfl]
      exact ⟨_, zcl_at _ ht, (u_born (zTy q.1) hts (zin_at _ ht) hKn hkC e1 (zty_at _ ht)).to (fun k hk => by
        rw [zdef (b := b) (B := B) q.1 k ht hk h q.2.1]
        unfold vp_V
        rw [List.getD_eq_getElem?_getD, zfv_get hk]
        rfl)⟩
  · cases hs
theorem zs_newa (C : zCx p s m args meth c cc own nm nL b B L xs dC dI cA) (hn0 : s.heap.size + 1 = B + n0) (hle : n0 ≤ zn h) (hu : u0 ≤ zu h) (hdg : decode cc pc = .ok (.newarray .int, 2)) (harr : Cond.arrayClass .int ∈ zGood) (hs : znewa 2 12 pc ls st h = some (.inr y))
    (hc : zn y.2.2.2 - n0 ≤ R.cells) (hsl : zu y.2.2.2 - u0 ≤ R.slots)
    (hW : zWA p l e R s m args below meth c Q b B L xs dC dI cA n0 u0 nL y) : zWA p l e R s m args below meth c Q b B L xs dC dI cA n0 u0 nL (pc, ls, st, h) := by
  obtain ⟨hx, hb, hml, hown, hts, hK, -⟩ := C
  unfold znewa at hs
  split at hs
  · rename_i n r
    split at hs
    · cases hs
    · rename_i hn
      simp only [zgo, Option.some.injEq, Sum.inr.injEq] at hs
      subst hs
      dsimp only at hc hsl
      rw [zn_N] at hc
      rw [zu_N] at hsl
      intro H locs la hR hS hl
      have hR : zRep b B L xs dC dI cA h H := hR
      have hb2 : n.toNatClampNeg * componentBytes (newarray.typeOf .int) ≤ 536870912 := by
        have h3 : n.toNatClampNeg ≤ 1000 := Nat.not_lt.mp fun z => hn (Or.inr z)
        have h4 : componentBytes (newarray.typeOf .int) = 4 := by decide
        rw [h4]
        omega
      refine va_newaK hx hb (atype := .int) (hts _ harr) rfl hdg (cells := zn h - n0) (slots := zu h - u0) rfl (fun z => hn (Or.inl z)) rfl hb2 (by omega) (by omega) rfl fun H1 cA2 e1 z1 o1 hAr hNm => ?_
      have hca : cA2 = cA 0 := by
        have h5 : va_RA s (cA 0) .int := (hK.1.2 0 _ rfl).2
        exact Option.some.inj (hNm.symm.trans h5)
      subst hca
      have hadr : zadr b B (zn h) = H.size := by
        have := hR.2.1
        have := hR.2.2.1
        rw [zadr_pos this]
        omega
      have K := hW H1 locs la (hR.push (t := 12) (n := n.toNatClampNeg) (N := n.toNatClampNeg) (by omega) z1 o1 ?_) ⟨Nat.le_trans hS.1 (by omega), fun x h1 h2 => (o1 x (Nat.lt_of_lt_of_le h1 hS.1)).trans (hS.2.1 x h1 h2), hS.2.2⟩ hl
      · dsimp only at K
        rw [zn_N, zu_N] at K
        refine W.cs (cells' := zn h + 1 - n0) (slots' := zu h + n.toNatClampNeg - u0) (by omega) (by omega) ?_
        have e5 : (ztr b B (.inr (.inr (some (zn h)))) : Value) = .ref H.size := by
          show va_rf (some (zadr b B (zn h))) = _
          rw [hadr]
          rfl
        rw [List.map_cons, e5] at K
        exact K
      · rw [zcell_ints (by rw [zk_N, if_pos rfl]), zk_N, if_pos rfl]
        show H1[H.size]? = some (vp_cell _ _)
        rw [vp_cell_i, e1]
        congr 2
        funext j
        rw [zi_N, if_pos rfl]
        rfl
  · cases hs
theorem zs_anew (C : zCx p s m args meth c cc own nm nL b B L xs dC dI cA) (hn0 : s.heap.size + 1 = B + n0) (hle : n0 ≤ zn h) (hu : u0 ≤ zu h) {idx t : Nat} (h13 : 13 ≤ t) (h15 : t ≤ 15) (hdg : decode cc pc = .ok (.anewarray idx, 3)) (hlk : Cond.classLink own idx (zC (if t = 13 then 8 else if t = 14 then 4 else 7)) ∈ zGood) (hov : Cond.arrayOver (.object (zC (if t = 13 then 8 else if t = 14 then 4 else 7))) ∈ lw_tbl) (hs : znewa 3 t pc ls st h = some (.inr y))
    (hc : zn y.2.2.2 - n0 ≤ R.cells) (hsl : zu y.2.2.2 - u0 ≤ R.slots)
    (hW : zWA p l e R s m args below meth c Q b B L xs dC dI cA n0 u0 nL y) : zWA p l e R s m args below meth c Q b B L xs dC dI cA n0 u0 nL (pc, ls, st, h) := by
  obtain ⟨hx, hb, hml, hown, hts, hK, -⟩ := C
  unfold znewa at hs
  split at hs
  · rename_i n r
    split at hs
    · cases hs
    · rename_i hn
      simp only [zgo, Option.some.injEq, Sum.inr.injEq] at hs
      subst hs
      dsimp only at hc hsl
      rw [zn_N] at hc
      rw [zu_N] at hsl
      intro H locs la hR hS hl
      have hR : zRep b B L xs dC dI cA h H := hR
      have hb2 : n.toNatClampNeg * 4 ≤ 536870912 := by
        have h3 : n.toNatClampNeg ≤ 1000 := Nat.not_lt.mp fun z => hn (Or.inr z)
        omega
      have hao : va_AO (zC (if t = 13 then 8 else if t = 14 then 4 else 7)) s := hK.2.1 _ hov rfl
      refine W.anew hx hb hown (hts _ hlk) (va_AO.use hao) rfl hdg (cells := zn h - n0) (slots := zu h - u0) rfl (fun z => hn (Or.inl z)) hb2 (by omega) (by omega) fun cA2 kA comp f1 f2 f3 f4 => ?_
      have hca : cA2 = cA (t - 12) := by
        obtain ⟨_, _, -, -, -, h5⟩ := (hK.1.2 _ _ (ztys_at cA t h13 h15)).2
        exact Option.some.inj (f1.symm.trans h5)
      subst hca
      generalize hH1 : H.push ({ cls := cA (t - 12), slots := Array.replicate n.toNatClampNeg .null, vm := .none } : Cell) = H1
      have z1 : H1.size = H.size + 1 := by rw [← hH1, Array.size_push]
      have e1 : H1[H.size]? = some (arrV (cA (t - 12)) n.toNatClampNeg (fun _ => .null)) := by rw [← hH1, Array.getElem?_push_size, ← arrV_new]
      have o1 : ∀ q : Nat, q < H.size → H1[q]? = H[q]? := fun q hq => by rw [← hH1, Array.getElem?_push, if_neg (Nat.ne_of_lt hq)]
      have hadr : zadr b B (zn h) = H.size := by
        have := hR.2.1
        have := hR.2.2.1
        rw [zadr_pos this]
        omega
      have K := hW H1 locs la (hR.push (t := t) (n := n.toNatClampNeg) (N := n.toNatClampNeg) (by omega) z1 o1 ?_) ⟨Nat.le_trans hS.1 (by omega), fun x h1 h2 => (o1 x (Nat.lt_of_lt_of_le h1 hS.1)).trans (hS.2.1 x h1 h2), hS.2.2⟩ hl
      · dsimp only at K
        rw [zn_N, zu_N] at K
        refine W.cs (cells' := zn h + 1 - n0) (slots' := zu h + n.toNatClampNeg - u0) (by omega) (by omega) ?_
        have e5 : (ztr b B (.inr (.inr (some (zn h)))) : Value) = .ref H.size := by
          show va_rf (some (zadr b B (zn h))) = _
          rw [hadr]
          rfl
        rw [List.map_cons, e5] at K
        exact K
      · rw [zcell_refs (by rw [zk_N, if_pos rfl]; exact (show 12 < t by omega)), zk_N, if_pos rfl]
        show H1[H.size]? = some (vp_cell _ _)
        rw [vp_cell_q, e1]
        congr 2
        funext j
        rw [zr_N, if_pos rfl]
        rfl
  · cases hs
/-- instanceof: 1 where the class is the named one or can be cast to it, 0 where it is told that it can't -/
def zIo (t : Nat) (nm2 : String) (k : Nat) : Prop := t < 12 ∧ ((k = 1 ∧ (zC t = nm2 ∨ (Cond.castable (zC t) nm2 ∈ lw_tbl))) ∨ (k = 0 ∧ ((zC t = RX8 ∧ nm2 = RX5) ∨ (zC t = RX8 ∧ nm2 = RX0) ∨ (zC t = RX0 ∧ nm2 = RX5))))
theorem zs_inst (C : zCx p s m args meth c cc own nm nL b B L xs dC dI cA) {o : zO} {idx : Nat} {nm2 : String} (hdg : decode cc pc = .ok (.instanceof idx, 3)) (hlk : Cond.classLink own idx nm2 ∈ zGood) (ho : ∀ q ∈ o.2.2.2, zIo q.1 nm2 q.2.1) (hs : zinst o pc ls st h = some (.inr y))
    (hW : zWA p l e R s m args below meth c Q b B L xs dC dI cA n0 u0 nL y) : zWA p l e R s m args below meth c Q b B L xs dC dI cA n0 u0 nL (pc, ls, st, h) := by
  obtain ⟨hx, hb, hml, hown, hts, hK, -⟩ := C
  unfold zinst at hs
  split at hs
  · rename_i a r
    cases hf : zfind o.2.2.2 (zk h a).1 with
    | none => rw [hf] at hs; cases hs
    | some k =>
      rw [hf, Option.bind_some] at hs
      obtain ⟨q, hq, e1, e2⟩ := zfind_mem hf
      obtain ⟨ht, hi⟩ := ho q hq
      rw [e1] at ht hi
      rw [e2] at hi
      simp only [zgo, Option.some.injEq, Sum.inr.injEq] at hs
      subst hs
      intro H locs la hR hS hl
      have hR : zRep b B L xs dC dI cA h H := hR
      obtain ⟨a1, a2⟩ := hR.in (a := a) (by omega)
      have he := zws_get b B cA h a1 a2
      rw [zcell_obj ht] at he
      have hrec := va_recv hK.1 hR.1 (zcl_at _ ht) he
      have K := hW H locs la hR hS hl
      dsimp only at K
      rcases hi with ⟨rfl, hi⟩ | ⟨rfl, hi⟩
      · rw [if_pos rfl] at K
        rcases hi with hi | hi
        · subst hi
          exact va_instS hx hb hown (hts _ hlk) (hK.1.1 _ _ (zcl_at _ ht)).2 hrec hdg K
        · exact va_instY hx hb hown (hts _ hlk) (hK.2.1 _ hi rfl) hrec hdg K
      · rw [if_neg (by decide)] at K
        refine va_instNo hx hb hown (hts _ hlk) ?_ hrec hdg K
        rcases hi with ⟨h1, h2⟩ | ⟨h1, h2⟩ | ⟨h1, h2⟩
        · show va_Nc (zC (zk h a).1) nm2 s
          rw [h1, h2]; exact hK.2.2.1
        · show va_Nc (zC (zk h a).1) nm2 s
          rw [h1, h2]; exact hK.2.2.2.1
        · show va_Nc (zC (zk h a).1) nm2 s
          rw [h1, h2]; exact hK.2.2.2.2
  · cases hs
theorem zs_copy (C : zCx p s m args meth c cc own nm nL b B L xs dC dI cA) (hn0 : s.heap.size + 1 = B + n0) (hle : n0 ≤ zn h) {idx : Nat} (hdg : decode cc pc = .ok (.invokestatic idx, 3)) (w1 : Cond.methodLink own idx arraycopyName ∈ zGood) (w2 : Cond.native arraycopyName ∈ zGood) (w3 : Cond.static arraycopyName ∈ zGood) (w4 : Cond.initialized "java/lang/System" ∈ zGood) (hfr : 1 ≤ R.frames) (hlo : 40 ≤ R.locals) (hs : zcopy pc ls st h = some (.inr y))
    (hW : zWA p l e R s m args below meth c Q b B L xs dC dI cA n0 u0 nL y) : zWA p l e R s m args below meth c Q b B L xs dC dI cA n0 u0 nL (pc, ls, st, h) := by
  obtain ⟨hx, hb, hml, hown, hts, hK, -⟩ := C
  unfold zcopy at hs
  split at hs
  · rename_i n dp q sp a r
    split at hs
    · rename_i hc
      obtain ⟨ta, tq, c1, c2, c3, c4, c5, rfl⟩ := hc
      simp only [zgo, Option.some.injEq, Sum.inr.injEq] at hs
      subst hs
      intro H locs la hR hS hl
      have hR : zRep b B L xs dC dI cA h H := hR
      obtain ⟨a1, a2⟩ := hR.in (a := a) (by omega)
      obtain ⟨q1, q2⟩ := hR.in (a := q) (by omega)
      have he := zws_get b B cA h a1 a2
      have hq := zws_get b B cA h q1 q2
      rw [zcell_ints ta] at he
      rw [zcell_ints tq] at hq
      refine va_copyi (D := (dC, dI)) (rest := []) hx hb (by rw [hml, hl.1]) hown (hts _ w1) (hts _ w2) (hts _ w3) (hts _ w4) hK.1 hR.1 (zws_D b B cA h) (zS_self hS) (a - 1) (q - 1) 0 0 he hq rfl rfl rfl c3 c2 c1 c4 c5 (fun _ _ => rfl) hfr ?_ hdg (fun H1 locs1 hP1 _ hS1 => zsize fun hz => ?_)
      · have : nativeFrameWords "java/lang/System" "arraycopy" 5 + 11 ≤ 40 := by decide +kernel
        simpa using Nat.le_trans this hlo
      · have hz : H1.size ≤ s.heap.size + (zn h - n0) := hz
        have hz2 : H1.size = H.size := by
          have := hS1.1
          have := hR.2.1
          omega
        refine hW H1 locs1 la (hR.put (a := q) (h' := zwC h a sp.toNatClampNeg q dp.toNatClampNeg n.toNatClampNeg) (by omega) rfl (fun _ => rfl) ?_ ?_ hz2 ?_) (zS_trans hS hS1) hl
        · intro x hx
          have e : ∀ j', zi (zwC h a sp.toNatClampNeg q dp.toNatClampNeg n.toNatClampNeg) x j' = zi h x j' := fun j' => by rw [zi_wC, if_neg (fun z => hx z.1)]
          have e3 : zi (zwC h a sp.toNatClampNeg q dp.toNatClampNeg n.toNatClampNeg) x = zi h x := funext e
          have e4 : zfv b B (zwC h a sp.toNatClampNeg q dp.toNatClampNeg n.toNatClampNeg) x = zfv b B h x := funext fun j' => by unfold zfv; rw [zk_wC, zr_wC, e]
          unfold zcell
          rw [zk_wC, e3, e4]
          rfl
        · intro j'
          rw [zi_wC, if_neg (fun z => by omega)]
        · rw [zcell_ints (h := zwC h a sp.toNatClampNeg q dp.toNatClampNeg n.toNatClampNeg) tq]
          have e5 : zi (zwC h a sp.toNatClampNeg q dp.toNatClampNeg n.toNatClampNeg) q = va_cpy (zi h a) (zi h q) sp.toNatClampNeg dp.toNatClampNeg n.toNatClampNeg := by
            funext j'
            rw [zi_wC]
            unfold va_cpy
            by_cases z : dp.toNatClampNeg ≤ j' ∧ j' < dp.toNatClampNeg + n.toNatClampNeg
            · rw [if_pos ⟨rfl, z⟩, if_pos z]
            · rw [if_neg (fun w => z w.2), if_neg z]
          rw [e5]
          exact hP1
    · cases hs
  · cases hs
theorem zs_max (C : zCx p s m args meth c cc own nm nL b B L xs dC dI cA) {idx : Nat} (hdg : decode cc pc = .ok (.invokestatic idx, 3)) (w1 : Cond.methodLink own idx Lib.Math.max.name ∈ zGood) (w2 : Cond.static Lib.Math.max.name ∈ zGood) (w3 : Cond.initialized "java/lang/Math" ∈ zGood) (w4 : Cond.code Lib.Math.max.name Lib.Math.max.code 2 (some .int) ∈ zGood) (hfr : 1 ≤ R.frames) (hlo : 40 ≤ R.locals) (hc : zn y.2.2.2 - n0 ≤ R.cells) (hsl : zu y.2.2.2 - u0 ≤ R.slots) (hs : zmax pc ls st h = some (.inr y))
    (hW : zWA p l e R s m args below meth c Q b B L xs dC dI cA n0 u0 nL y) : zWA p l e R s m args below meth c Q b B L xs dC dI cA n0 u0 nL (pc, ls, st, h) := by
  obtain ⟨hx, hb, hml, hown, hts, hK, -⟩ := C
  unfold zmax at hs
  split at hs
  · rename_i v u r
    split at hs
    · rename_i hr
      simp only [zgo, Option.some.injEq, Sum.inr.injEq] at hs
      subst hs
      intro H locs la hR hS hl
      have := zcatsum0 b B r hr
      exact va_mmax hx hb (by rw [hml, hl.1]) hown (hts _ w1) (hts _ w2) (hts _ w3) (hts _ w4) hfr (by omega) hc hsl hdg (hW H locs la hR hS hl)
    · cases hs
  · cases hs
theorem zs_min (C : zCx p s m args meth c cc own nm nL b B L xs dC dI cA) {idx : Nat} (hdg : decode cc pc = .ok (.invokestatic idx, 3)) (w1 : Cond.methodLink own idx Lib.Math.min.name ∈ zGood) (w2 : Cond.static Lib.Math.min.name ∈ zGood) (w3 : Cond.initialized "java/lang/Math" ∈ zGood) (w4 : Cond.code Lib.Math.min.name Lib.Math.min.code 2 (some .int) ∈ zGood) (hfr : 1 ≤ R.frames) (hlo : 40 ≤ R.locals) (hc : zn y.2.2.2 - n0 ≤ R.cells) (hsl : zu y.2.2.2 - u0 ≤ R.slots) (hs : zmin pc ls st h = some (.inr y))
    (hW : zWA p l e R s m args below meth c Q b B L xs dC dI cA n0 u0 nL y) : zWA p l e R s m args below meth c Q b B L xs dC dI cA n0 u0 nL (pc, ls, st, h) := by
  obtain ⟨hx, hb, hml, hown, hts, hK, -⟩ := C
  unfold zmin at hs
  split at hs
  · rename_i v u r
    split at hs
    · rename_i hr
      simp only [zgo, Option.some.injEq, Sum.inr.injEq] at hs
      subst hs
      intro H locs la hR hS hl
      have := zcatsum0 b B r hr
      exact va_mmin hx hb (by rw [hml, hl.1]) hown (hts _ w1) (hts _ w2) (hts _ w3) (hts _ w4) hfr (by omega) hc hsl hdg (hW H locs la hR hS hl)
    · cases hs
  · cases hs
end ZMOPS
