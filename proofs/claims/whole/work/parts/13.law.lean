/-! THE CLAIM OUT OF ONE WALK OF THE LAW'S BODY. Your part is whole_start (and what it stands on); all else here is the same for every law, but numbers. -/
def R_law : String := "CorpseTalesLaw"
def lw_P (b : Addr) (xs : List Int32) (args : Array Value) (s : State) : Prop := args = #[.ref b] ∧ s.IntsAt b xs ∧ xs.length ≤ 384 ∧ (Jvm.Cond.and given_1 narrow_1).before args s = true
def lw_Q (_ : Array Value) (s : State) (o : Outcome) (t : State) : Prop := o = .returned (some (.int 1)) ∧ Framed s o t [] 600000 7302250
def lw_Z (below : List Frame) (a : Array Value) (s : State) : State → Prop := fun t => ∃ o, t.status = .running ∧ Ended t below o ∧ lw_Q a s o t
/-- the law's own end, with 1 on the stack, nothing written that was there before, its room as the claim has it -/
theorem lw_ret {p : Program} {l : Launch} {e : Env} {s : State} {m : MethodId} {below : List Frame} {meth : Method} {c : Code} {b : Nat} (hx : p.tables.exec = Jvm.exec) (hb : c.code = code) (hr : meth.sig.returnType = ret) (hlocks : meth.locks = false) {pc : Nat} {H : Heap} {ls : Array Slot} (hdg : decode code pc = .ok (.ireturn, 1)) : W p l e room_1 s m #[Value.ref b] below meth c H [] 600000 7302250 (lw_Z below #[Value.ref b] s) (F0 m pc ls [.int 1]) := by
  intro T hT X
  obtain ⟨fs, hret, hrun, hended, hW, hframe⟩ := X.leave (v := some (.int 1)) (hlocks := hlocks) (fun h => by rw [hr] at h; cases h)
  have hmeth' : T.vm.method? m = some meth := X.method'
  refine ⟨T.setFrames fs, ?_, .returned (some (.int 1)), hrun, hended, rfl, ⟨_, rfl⟩, hW, hframe⟩
  jvm_step X.here [X.here.top, hx, hb, hdg, hmeth', hr, ret, narrow_b1]
  (try refine ⟨rfl, ?_⟩); (try refine ⟨rfl, ?_⟩)
  first | (intro acts; rw [hret _ acts rfl rfl rfl]) | rw [hret _ _ rfl rfl rfl]
  exact Steps.refl _
/-- what holds at the law's entry: the machine, the code, the tables' words (any of lw_tbl by 'hts w (by decide +kernel)'), the script of L ints xs at the cell b, what the Statement gives of the start (any of its parts by flat_of_before) -/
def lw_At (p : Program) (s : State) (m : MethodId) (meth : Method) (c : Code) (b L : Nat) (xs : Nat → Int32) : Prop :=
  p.tables.exec = Jvm.exec ∧ c.code = code ∧ meth.sig.returnType = ret ∧ c.maxLocals = 4 ∧ s.vm.findClass R_law = some m.cls ∧ (∀ w ∈ lw_tbl, w.before #[Value.ref b] s = true) ∧ va_X b L xs s s.heap ∧ b < s.heap.size ∧ meth.locks = false ∧ (Jvm.Cond.and given_1 narrow_1).before #[Value.ref b] s = true
/-! the law's run in the deep machine is the law's run -/
def z0 (L : Nat) (xs : Nat → Int32) : zH := (1, 0, fun a => if a = 0 then (16, L) else (99, 0), fun a j => if a = 0 then xs j else 0, fun _ _ => none)
theorem zGood_in {w : Cond} (h : w ∈ zGood) : w ∈ lw_tbl := (List.mem_filter.mp h).1
theorem zinst_at : ∀ t, t < 12 → Cond.instantiable (zC t) (zNF t) ∈ lw_tbl := zcases (by decide +kernel) (by decide +kernel) (by decide +kernel) (by decide +kernel) (by decide +kernel) (by decide +kernel) (by decide +kernel) (by decide +kernel) (by decide +kernel) (by decide +kernel) (by decide +kernel) (by decide +kernel)
theorem zarr_0 : Cond.arrayClass .int ∈ lw_tbl := by decide +kernel
theorem zarr_1 : Cond.arrayOver (.object "CorpseTales$Tale") ∈ lw_tbl := by decide +kernel
theorem zarr_2 : Cond.arrayOver (.object "CorpseTales$Night") ∈ lw_tbl := by decide +kernel
theorem zarr_3 : Cond.arrayOver (.object "CorpseTales$Sheet") ∈ lw_tbl := by decide +kernel
theorem zcl_lt {t : Nat} {q : vw_C} (h : vwCl[t]? = some q) : t < 12 := (List.getElem?_eq_some_iff.mp h).1
theorem zK_start {s : State} {args : Array Value} (hts : ∀ w ∈ lw_tbl, w.before args s = true) (hgv : (Jvm.Cond.and given_1 narrow_1).before args s = true) : ∃ (dC : Nat → ClassId) (dI : Nat → Nat → Nat) (cA : Nat → ClassId), zK dC dI cA s := by
  have hk : ∀ t : Nat, ∃ q : ClassId × (Nat → Nat), t < 12 → u_Kn s (zC t) (zF t) (zNF t) q.1 q.2 := by
    intro t
    by_cases ht : t < 12
    · obtain ⟨c, i, h⟩ := u_known hts (fun w hw => zGood_in (zin_at t ht w hw)) (hts _ (zinst_at t ht))
      exact ⟨(c, i), fun _ => h⟩
    · exact ⟨(0, fun _ => 0), fun h => absurd h ht⟩
  obtain ⟨f, hf⟩ := Classical.axiomOfChoice hk
  obtain ⟨c0, k0, m0, a1, a2, a3⟩ := Cond.arrayClass_spec (hts _ zarr_0)
  have arr : ∀ C : String, Cond.arrayOver (.object C) ∈ lw_tbl → ∃ cA : ClassId, ArrOfT s cA (.object C) ∧ va_RA s cA (.object C) := by
    intro C hC
    obtain ⟨comp, c, k, h1, h2, h3, h4, h5⟩ := Cond.arrayOver_spec (hts _ hC)
    exact ⟨c, fun n z => ⟨(fun k h => by cases h), k, h3, comp, h4⟩, k, comp, h3, h4, h1, h5⟩
  obtain ⟨c1, b1⟩ := arr _ zarr_1
  obtain ⟨c2, b2⟩ := arr _ zarr_2
  obtain ⟨c3, b3⟩ := arr _ zarr_3
  refine ⟨fun t => (f t).1, fun t => (f t).2, fun k => if k = 0 then c0 else if k = 1 then c1 else if k = 2 then c2 else c3, ⟨fun t q hq => ?_, fun k q hq => ?_⟩, fun w hw hn => ?_, va_Nc.of (flat_of_before _ hgv _ (by decide +kernel)), va_Nc.of (flat_of_before _ hgv _ (by decide +kernel)), va_Nc.of (flat_of_before _ hgv _ (by decide +kernel))⟩
  · have ht := zcl_lt hq
    rw [zcl_at t ht] at hq
    cases hq
    exact hf t ht
  · match k, hq with
    | 0, hq =>
      cases hq
      exact ⟨fun n z => ⟨(fun k h => by cases h), k0, a2, m0, a3⟩, a1⟩
    | 1, hq => cases hq; exact b1
    | 2, hq => cases hq; exact b2
    | 3, hq => cases hq; exact b3
    | k + 4, hq => simp [ztys] at hq
  · have hz := hts w hw
    cases w <;> simp [znest] at hn
    case methodLinkNest => exact va_Nw.of rfl hz
    case castable => exact va_Nw.of rfl hz
    case arrayOver t =>
      cases t <;> simp at hn
      exact va_AO.of hz
def znoput (q : Nat × zO) : Bool := match q.2.1 with
  | .putfield _ => false
  | _ => true
theorem zTok_nm {M : Nat → zQ} {own nm nm2 : String} {cc : ByteArray} {ret : Option FieldType} {tab : List (Nat × zO)} (h : zTok M own nm cc ret tab) (hp : tab.all znoput = true) : zTok M own nm2 cc ret tab := by
  intro q hq
  obtain ⟨h1, h2, h3, h4, h5⟩ := h q hq
  refine ⟨h1, h2, h3, h4, ?_⟩
  have h6 := List.all_eq_true.mp hp q hq
  rw [← h5]
  obtain ⟨pc, i, len, k, tb⟩ := q
  unfold znoput at h6
  unfold zoks
  cases i <;> first | rfl | (simp at h6; done)
theorem zlaw_noput : tb_L_law.all znoput = true := by decide +kernel
theorem zwhole {p : Program} {e : Env} {s : State} {m : MethodId} {below : List Frame} {meth : Method} {c : Code} (l : Launch) {b L : Nat} {xs : Nat → Int32} (C0 : lw_At p s m meth c b L xs)
    (hpure : ∃ h', zx (zcall (zP zM) 40) (zlk tb_L_law) (0, [some (.inr (.inr (some 0))), none, none, none], [], z0 L xs) = some (some (.inl 1), h') ∧ zn h' ≤ 600000 ∧ zu h' ≤ 7302250) : W p l e room_1 s m #[Value.ref b] below meth c s.heap [] 0 0 (lw_Z below #[Value.ref b] s) (entryFrame m ([Value.ref b] : List Value).toArray 4) := by
  obtain ⟨hx, hb, hr, hml, hown, hts, hX, hbl, hlocks, hgv⟩ := C0
  obtain ⟨dC, dI, cA, hK⟩ := zK_start hts hgv
  obtain ⟨h', hrun, hcells, hslots⟩ := hpure
  obtain ⟨n, hn⟩ := zx_iff.mp hrun
  have hT : zTok zM RL meth.name code ret tb_L_law := zTok_nm ok_L_law zlaw_noput
  have C : zCx p s m #[Value.ref b] meth c code RL meth.name 4 b s.heap.size L xs dC dI cA := ⟨hx, hb, hml, hown, fun w hw => hts w (zGood_in hw), hK, hX, hbl, Nat.le_refl _, hlocks, rfl⟩
  have hR : zRep b s.heap.size L xs dC dI cA (z0 L xs) s.heap := by
    refine ⟨fun k q hq => by simp [zws, zn, z0] at hq, rfl, Nat.le_refl _, fun a ha => ?_, fun a ha ha2 => ?_, rfl, fun j hj => rfl⟩
    · show ((if a = 0 then (16, L) else (99, 0)) : Nat × Nat).1 = 99
      have : 1 ≤ a := ha
      rw [if_neg (by omega)]
    · have : a < 1 := ha2
      omega
  have key := zs_exec (l := l) (e := e) (below := below) (R := room_1) (d := 40) (n0 := 1) (u0 := 0) (Q := lw_Z below #[Value.ref b] s) C zM_ok (zMet_all zM_ok l hbl xs dC dI cA 40) (by decide) (by decide) rfl hT (r := (some (.inl 1), h')) (show zn h' - 1 ≤ 600000 by omega) (show zu h' - 0 ≤ 7302250 by omega) ?_ n _ hn (Nat.le_refl _) (Nat.zero_le _)
  · have hl := zLV_entry b s.heap.size [.inr (.inr (some 0))] (n := 4) (by decide)
    rw [lg_entry_eq]
    exact key s.heap [] _ hR va_S.rf hl
  · intro pc ls st h o ho hs
    obtain ⟨hdg, -⟩ := hT _ ho
    obtain ⟨i, len, k, tb⟩ := o
    dsimp only at hdg
    unfold zret at hs
    split at hs
    · rename_i v hi
      dsimp only at hi
      subst hi
      split at hs
      · cases hs
      · cases hs
        intro H locs la hR hS hl
        refine va_forget (fun q hq => hS.2.2 q hq) (W.widen (k := 600000) (n := 7302250) ?_ ?_ (lw_ret hx hb hr hlocks hdg))
        · show zn h' - 1 ≤ 600000
          omega
        · show zu h' - 0 ≤ 7302250
          omega
    · cases hs
    · cases hs
    · cases hs
    · cases hs
