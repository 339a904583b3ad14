/-! what every frame stands on -/
def zGood : List Cond := lw_tbl.filter goodWord
def ztys (cA : Nat → ClassId) : List (ClassId × FieldType) := [(cA 0, .int), (cA 1, .object "CorpseTales$Tale"), (cA 2, .object "CorpseTales$Night"), (cA 3, .object "CorpseTales$Sheet")]
def znest (w : Cond) : Bool := match w with
  | .methodLinkNest _ _ _ _ => true
  | .castable _ _ => true
  | .arrayOver (.object _) => true
  | _ => false
def zK (dC : Nat → ClassId) (dI : Nat → Nat → Nat) (cA : Nat → ClassId) (U : State) : Prop := va_K (dC, dI) vwCl (ztys cA) U ∧ (∀ w ∈ lw_tbl, znest w = true → va_Nw w U) ∧ va_Nc RX8 RX5 U ∧ va_Nc RX8 RX0 U ∧ va_Nc RX0 RX5 U
theorem zK.moved {dC : Nat → ClassId} {dI : Nat → Nat → Nat} {cA : Nat → ClassId} {s U : State} (hW : s.WarmedH U.vm) (h : zK dC dI cA s) : zK dC dI cA U := by
  obtain ⟨h1, h2, h3, h4, h5⟩ := h
  refine ⟨h1.moved hW.alike, fun w hw hn => ?_, h3.moved hW.alike, h4.moved hW.alike, h5.moved hW.alike⟩
  have hz := h2 w hw hn
  cases w <;> simp [znest] at hn
  case methodLinkNest => exact hz.warmM hW
  case castable => exact hz.warmC hW
  case arrayOver t =>
    cases t <;> simp at hn
    exact va_AO.moved hW.alike hz
def zF (t : Nat) : u_T := match t with
  | 0 => TX0 | 1 => TX1 | 2 => TX2 | 3 => TX3 | 4 => TX4 | 5 => TX5 | 6 => TX6 | 7 => TX7 | 8 => TX8 | 9 => TX9 | 10 => TX10 | _ => TX11
def zC (t : Nat) : String := match t with
  | 0 => RX0 | 1 => RX1 | 2 => RX2 | 3 => RX3 | 4 => RX4 | 5 => RX5 | 6 => RX6 | 7 => RX7 | 8 => RX8 | 9 => RX9 | 10 => RX10 | _ => RX11
theorem zcases {P : Nat → Prop} (h0 : P 0) (h1 : P 1) (h2 : P 2) (h3 : P 3) (h4 : P 4) (h5 : P 5) (h6 : P 6) (h7 : P 7) (h8 : P 8) (h9 : P 9) (h10 : P 10) (h11 : P 11) : ∀ t, t < 12 → P t := by
  intro t ht
  match t, ht with
  | 0, _ => exact h0
  | 1, _ => exact h1
  | 2, _ => exact h2
  | 3, _ => exact h3
  | 4, _ => exact h4
  | 5, _ => exact h5
  | 6, _ => exact h6
  | 7, _ => exact h7
  | 8, _ => exact h8
  | 9, _ => exact h9
  | 10, _ => exact h10
  | 11, _ => exact h11
theorem zcl_at : ∀ t, t < 12 → vwCl[t]? = some (zC t, zF t, zNF t) := zcases rfl rfl rfl rfl rfl rfl rfl rfl rfl rfl rfl rfl
theorem zin_at : ∀ t, t < 12 → ∀ w ∈ u_ws (zC t) (zF t) (zNF t), w ∈ zGood := zcases (by decide +kernel) (by decide +kernel) (by decide +kernel) (by decide +kernel) (by decide +kernel) (by decide +kernel) (by decide +kernel) (by decide +kernel) (by decide +kernel) (by decide +kernel) (by decide +kernel) (by decide +kernel)
theorem zty_at : ∀ t, t < 12 → ∀ k, k < zNF t → parseFieldDescriptor (zF t k).2.2.1 = some (zTy t k) := zcases tyX0_ok tyX1_ok tyX2_ok tyX3_ok tyX4_ok tyX5_ok tyX6_ok tyX7_ok tyX8_ok tyX9_ok tyX10_ok tyX11_ok
theorem znm_at : ∀ t, t < 12 → ∀ a, a < zNF t → ∀ b, b < zNF t → a ≠ b → (zF t a).2.1 ≠ (zF t b).2.1 := zcases nmX0 nmX1 nmX2 nmX3 nmX4 nmX5 nmX6 nmX7 nmX8 nmX9 nmX10 nmX11
def zCx (p : Program) (s : State) (m : MethodId) (args : Array Value) (meth : Method) (c : Code) (cc : ByteArray) (own nm : String) (nL b B L : Nat) (xs : Nat → Int32) (dC : Nat → ClassId) (dI : Nat → Nat → Nat) (cA : Nat → ClassId) : Prop :=
  p.tables.exec = Jvm.exec ∧ c.code = cc ∧ c.maxLocals = nL ∧ s.vm.findClass own = some m.cls ∧ (∀ w ∈ zGood, w.before args s = true) ∧ zK dC dI cA s ∧ va_X b L xs s s.heap ∧ b < B ∧ B ≤ s.heap.size ∧ meth.locks = false ∧ meth.name = nm
def zWA (p : Program) (l : Launch) (e : Env) (R : Room) (s : State) (m : MethodId) (args : Array Value) (below : List Frame) (meth : Method) (c : Code) (Q : State → Prop) (b B L : Nat) (xs : Nat → Int32) (dC : Nat → ClassId) (dI : Nat → Nat → Nat) (cA : Nat → ClassId) (n0 u0 nL : Nat) (x : zS) : Prop :=
  ∀ (H : Heap) (locs : List Loc) (la : Array Slot), zRep b B L xs dC dI cA x.2.2.2 H → va_S (fun q => B ≤ q) s.heap H locs → zLV b B la nL x.2.1 → W p l e R s m args below meth c H locs (zn x.2.2.2 - n0) (zu x.2.2.2 - u0) Q (F0 m x.1 la (x.2.2.1.map (ztr b B)))
section ZOPS
variable {p : Program} {l : Launch} {e : Env} {R : Room} {s : State} {m : MethodId} {args : Array Value} {below : List Frame} {meth : Method} {c : Code} {Q : State → Prop} {cc : ByteArray} {own nm : String} {nL b B L n0 u0 : Nat} {xs : Nat → Int32} {dC : Nat → ClassId} {dI : Nat → Nat → Nat} {cA : Nat → ClassId}
variable {pc : Nat} {ls : zL} {st : List zV} {h : zH} {y : zS}
/-- steps that leave the heap and the locals as they are -/
theorem zs_push {v : zV} {k : Nat} (hs : zpush k pc ls st h v = some (.inr y)) (hr : ∀ (H : Heap) (locs : List Loc) (la : Array Slot) (ce sl : Nat) (r : List Value), W p l e R s m args below meth c H locs ce sl Q (F0 m (pc + k) la (ztr b B v :: r)) → W p l e R s m args below meth c H locs ce sl Q (F0 m pc la r))
    (hW : zWA p l e R s m args below meth c Q b B L xs dC dI cA n0 u0 nL y) : zWA p l e R s m args below meth c Q b B L xs dC dI cA n0 u0 nL (pc, ls, st, h) := by
  simp only [zpush, Option.some.injEq, Sum.inr.injEq] at hs
  subst hs
  intro H locs la hR hS hl
  exact hr _ _ _ _ _ _ (hW H locs la hR hS hl)
theorem zs_op2 {f : Int32 → Int32 → Option Int32} (hs : zop2 f pc ls st h = some (.inr y)) (hr : ∀ (u v w : Int32), f u v = some w → ∀ (H : Heap) (locs : List Loc) (la : Array Slot) (ce sl : Nat) (r : List Value), W p l e R s m args below meth c H locs ce sl Q (F0 m (pc + 1) la (.int w :: r)) → W p l e R s m args below meth c H locs ce sl Q (F0 m pc la (.int v :: .int u :: r)))
    (hW : zWA p l e R s m args below meth c Q b B L xs dC dI cA n0 u0 nL y) : zWA p l e R s m args below meth c Q b B L xs dC dI cA n0 u0 nL (pc, ls, st, h) := by
  unfold zop2 at hs
  split at hs
  · rename_i v u r
    cases hf : f u v with
    | none => rw [hf] at hs; cases hs
    | some w =>
      rw [hf] at hs
      simp only [Option.bind_some, zgo, Option.some.injEq, Sum.inr.injEq] at hs
      subst hs
      intro H locs la hR hS hl
      exact hr u v w hf _ _ _ _ _ _ (hW H locs la hR hS hl)
  · cases hs
theorem zs_op2l {f : Int64 → Int64 → Option Int64} (hs : zop2l f pc ls st h = some (.inr y)) (hr : ∀ (u v w : Int64), f u v = some w → ∀ (H : Heap) (locs : List Loc) (la : Array Slot) (ce sl : Nat) (r : List Value), W p l e R s m args below meth c H locs ce sl Q (F0 m (pc + 1) la (.long w :: r)) → W p l e R s m args below meth c H locs ce sl Q (F0 m pc la (.long v :: .long u :: r)))
    (hW : zWA p l e R s m args below meth c Q b B L xs dC dI cA n0 u0 nL y) : zWA p l e R s m args below meth c Q b B L xs dC dI cA n0 u0 nL (pc, ls, st, h) := by
  unfold zop2l at hs
  split at hs
  · rename_i v u r
    cases hf : f u v with
    | none => rw [hf] at hs; cases hs
    | some w =>
      rw [hf] at hs
      simp only [Option.bind_some, zgo, Option.some.injEq, Sum.inr.injEq] at hs
      subst hs
      intro H locs la hR hS hl
      exact hr u v w hf _ _ _ _ _ _ (hW H locs la hR hS hl)
  · cases hs
theorem zs_op1 {f : Int32 → zV} (hs : zop1 f pc ls st h = some (.inr y)) (hr : ∀ (u : Int32) (H : Heap) (locs : List Loc) (la : Array Slot) (ce sl : Nat) (r : List Value), W p l e R s m args below meth c H locs ce sl Q (F0 m (pc + 1) la (ztr b B (f u) :: r)) → W p l e R s m args below meth c H locs ce sl Q (F0 m pc la (.int u :: r)))
    (hW : zWA p l e R s m args below meth c Q b B L xs dC dI cA n0 u0 nL y) : zWA p l e R s m args below meth c Q b B L xs dC dI cA n0 u0 nL (pc, ls, st, h) := by
  unfold zop1 at hs
  split at hs
  · rename_i u r
    simp only [zgo, Option.some.injEq, Sum.inr.injEq] at hs
    subst hs
    intro H locs la hR hS hl
    exact hr u _ _ _ _ _ _ (hW H locs la hR hS hl)
  · cases hs
theorem zs_lcmp (hx : p.tables.exec = Jvm.exec) (hb : c.code = cc) (hdg : decode cc pc = .ok (.lcmp, 1)) (hs : zlcmp pc ls st h = some (.inr y))
    (hW : zWA p l e R s m args below meth c Q b B L xs dC dI cA n0 u0 nL y) : zWA p l e R s m args below meth c Q b B L xs dC dI cA n0 u0 nL (pc, ls, st, h) := by
  unfold zlcmp at hs
  split at hs
  · simp only [zgo, Option.some.injEq, Sum.inr.injEq] at hs
    subst hs
    intro H locs la hR hS hl
    exact W.lcmp hx hb hdg (hW H locs la hR hS hl)
  · cases hs
theorem zs_dup (hx : p.tables.exec = Jvm.exec) (hb : c.code = cc) (hdg : decode cc pc = .ok (.dup, 1)) (hs : zdup pc ls st h = some (.inr y))
    (hW : zWA p l e R s m args below meth c Q b B L xs dC dI cA n0 u0 nL y) : zWA p l e R s m args below meth c Q b B L xs dC dI cA n0 u0 nL (pc, ls, st, h) := by
  unfold zdup at hs
  split at hs
  · rename_i v r
    split at hs
    · rename_i hv
      simp only [zgo, Option.some.injEq, Sum.inr.injEq] at hs
      subst hs
      intro H locs la hR hS hl
      refine lv_dup hx hb hdg ?_ (hW H locs la hR hS hl)
      rcases lv_cat (ztr b B v) with q | q
      · exact q
      · rw [(ztr_cat b B v).mp q] at hv
        cases hv
    · cases hs
  · cases hs
theorem zs_pop (hx : p.tables.exec = Jvm.exec) (hb : c.code = cc) (hdg : decode cc pc = .ok (.pop, 1)) (hs : zpop pc ls st h = some (.inr y))
    (hW : zWA p l e R s m args below meth c Q b B L xs dC dI cA n0 u0 nL y) : zWA p l e R s m args below meth c Q b B L xs dC dI cA n0 u0 nL (pc, ls, st, h) := by
  unfold zpop at hs
  split at hs
  · rename_i v r
    split at hs
    · rename_i hv
      simp only [zgo, Option.some.injEq, Sum.inr.injEq] at hs
      subst hs
      intro H locs la hR hS hl
      refine lv_pop hx hb hdg ?_ (hW H locs la hR hS hl)
      rcases lv_cat (ztr b B v) with q | q
      · exact q
      · rw [(ztr_cat b B v).mp q] at hv
        cases hv
    · cases hs
  · cases hs
theorem zs_dup2 (hx : p.tables.exec = Jvm.exec) (hb : c.code = cc) (hdg : decode cc pc = .ok (.dup2, 1)) (hs : zdup2 pc ls st h = some (.inr y))
    (hW : zWA p l e R s m args below meth c Q b B L xs dC dI cA n0 u0 nL y) : zWA p l e R s m args below meth c Q b B L xs dC dI cA n0 u0 nL (pc, ls, st, h) := by
  unfold zdup2 at hs
  split at hs
  · rename_i v w r
    split at hs
    · rename_i hv
      simp only [zgo, Option.some.injEq, Sum.inr.injEq] at hs
      subst hs
      intro H locs la hR hS hl
      refine lv_dup2_11 hx hb hdg ?_ ?_ (hW H locs la hR hS hl)
      · rcases lv_cat (ztr b B v) with q | q
        · exact q
        · rw [(ztr_cat b B v).mp q] at hv
          exact absurd hv.1 (by decide)
      · rcases lv_cat (ztr b B w) with q | q
        · exact q
        · rw [(ztr_cat b B w).mp q] at hv
          exact absurd hv.2 (by decide)
    · cases hs
  · cases hs
/-- jumps -/
theorem zs_goto (hx : p.tables.exec = Jvm.exec) (hb : c.code = cc) {off : Int} (hdg : decode cc pc = .ok (.goto off, 3)) (ht : (pc : Int) + off = (ztg pc off : Int)) (hs : zgo (ztg pc off) ls st h = some (.inr y))
    (hW : zWA p l e R s m args below meth c Q b B L xs dC dI cA n0 u0 nL y) : zWA p l e R s m args below meth c Q b B L xs dC dI cA n0 u0 nL (pc, ls, st, h) := by
  simp only [zgo, Option.some.injEq, Sum.inr.injEq] at hs
  subst hs
  intro H locs la hR hS hl
  exact lv_goto hx hb hdg ht (hW H locs la hR hS hl)
theorem zs_jump (hx : p.tables.exec = Jvm.exec) (hb : c.code = cc) {cd : ClassFile.Cond} {off : Int} (hdg : decode cc pc = .ok (.ifCond cd off, 3)) (ht : (pc : Int) + off = (ztg pc off : Int)) (hs : zjump cd off pc ls st h = some (.inr y))
    (hW : zWA p l e R s m args below meth c Q b B L xs dC dI cA n0 u0 nL y) : zWA p l e R s m args below meth c Q b B L xs dC dI cA n0 u0 nL (pc, ls, st, h) := by
  unfold zjump at hs
  split at hs
  · rename_i v r
    intro H locs la hR hS hl
    show W _ _ _ _ _ _ _ _ _ _ _ _ _ _ _ (F0 m pc la (.int v :: r.map (ztr b B)))
    split at hs <;> rename_i hv <;> simp only [zgo, Option.some.injEq, Sum.inr.injEq] at hs <;> subst hs <;> have K := hW H locs la hR hS hl <;> cases cd <;> simp [zcond] at hv
    · exact lv_if_eq hx hb hdg ht (fun _ => K) (fun q => absurd hv q)
    · exact lv_if_ne hx hb hdg ht (fun _ => K) (fun q => absurd q hv)
    · exact lv_if_lt hx hb hdg ht (fun _ => K) (fun q => absurd hv (by simpa using q))
    · exact lv_if_ge hx hb hdg ht (fun _ => K) (fun q => absurd hv (by simpa using q))
    · exact lv_if_gt hx hb hdg ht (fun _ => K) (fun q => absurd hv (by simpa using q))
    · exact lv_if_le hx hb hdg ht (fun _ => K) (fun q => absurd hv (by simpa using q))
    · exact lv_if_eq hx hb hdg ht (fun q => absurd q hv) (fun _ => K)
    · exact lv_if_ne hx hb hdg ht (fun q => absurd hv q) (fun _ => K)
    · exact lv_if_lt hx hb hdg ht (fun q => absurd q (by simpa using hv)) (fun _ => K)
    · exact lv_if_ge hx hb hdg ht (fun q => absurd q (by simpa using hv)) (fun _ => K)
    · exact lv_if_gt hx hb hdg ht (fun q => absurd q (by simpa using hv)) (fun _ => K)
    · exact lv_if_le hx hb hdg ht (fun q => absurd q (by simpa using hv)) (fun _ => K)
  · cases hs
theorem zs_jump2 (hx : p.tables.exec = Jvm.exec) (hb : c.code = cc) {cd : ClassFile.Cond} {off : Int} (hdg : decode cc pc = .ok (.if_icmp cd off, 3)) (ht : (pc : Int) + off = (ztg pc off : Int)) (hs : zjump2 cd off pc ls st h = some (.inr y))
    (hW : zWA p l e R s m args below meth c Q b B L xs dC dI cA n0 u0 nL y) : zWA p l e R s m args below meth c Q b B L xs dC dI cA n0 u0 nL (pc, ls, st, h) := by
  unfold zjump2 at hs
  split at hs
  · rename_i w v r
    intro H locs la hR hS hl
    show W _ _ _ _ _ _ _ _ _ _ _ _ _ _ _ (F0 m pc la (.int w :: .int v :: r.map (ztr b B)))
    split at hs <;> rename_i hv <;> simp only [zgo, Option.some.injEq, Sum.inr.injEq] at hs <;> subst hs <;> have K := hW H locs la hR hS hl <;> cases cd <;> simp [zcond] at hv
    · exact lv_icmp_eq hx hb hdg ht (fun _ => K) (fun q => absurd hv q)
    · exact lv_icmp_ne hx hb hdg ht (fun _ => K) (fun q => absurd q hv)
    · exact lv_icmp_lt hx hb hdg ht (fun _ => K) (fun q => absurd hv (by simpa using q))
    · exact lv_icmp_ge hx hb hdg ht (fun _ => K) (fun q => absurd hv (by simpa using q))
    · exact lv_icmp_gt hx hb hdg ht (fun _ => K) (fun q => absurd hv (by simpa using q))
    · exact lv_icmp_le hx hb hdg ht (fun _ => K) (fun q => absurd hv (by simpa using q))
    · exact lv_icmp_eq hx hb hdg ht (fun q => absurd q hv) (fun _ => K)
    · exact lv_icmp_ne hx hb hdg ht (fun q => absurd hv q) (fun _ => K)
    · exact lv_icmp_lt hx hb hdg ht (fun q => absurd q (by simpa using hv)) (fun _ => K)
    · exact lv_icmp_ge hx hb hdg ht (fun q => absurd q (by simpa using hv)) (fun _ => K)
    · exact lv_icmp_gt hx hb hdg ht (fun q => absurd q (by simpa using hv)) (fun _ => K)
    · exact lv_icmp_le hx hb hdg ht (fun q => absurd q (by simpa using hv)) (fun _ => K)
  · cases hs
theorem zs_null (hx : p.tables.exec = Jvm.exec) (hb : c.code = cc) {off : Int} (hdg : decode cc pc = .ok (.ifnull off, 3)) (ht : (pc : Int) + off = (ztg pc off : Int)) (hs : zjumpN true off pc ls st h = some (.inr y))
    (hW : zWA p l e R s m args below meth c Q b B L xs dC dI cA n0 u0 nL y) : zWA p l e R s m args below meth c Q b B L xs dC dI cA n0 u0 nL (pc, ls, st, h) := by
  unfold zjumpN at hs
  split at hs
  · rename_i q r
    intro H locs la hR hS hl
    cases q with
    | none =>
      simp [zgo] at hs
      subst hs
      exact lv_ifnullN hx hb hdg ht (hW H locs la hR hS hl)
    | some q =>
      simp [zgo] at hs
      subst hs
      exact lv_ifnull hx hb hdg (hW H locs la hR hS hl)
  · cases hs
theorem zs_nonnull (hx : p.tables.exec = Jvm.exec) (hb : c.code = cc) {off : Int} (hdg : decode cc pc = .ok (.ifnonnull off, 3)) (ht : (pc : Int) + off = (ztg pc off : Int)) (hs : zjumpN false off pc ls st h = some (.inr y))
    (hW : zWA p l e R s m args below meth c Q b B L xs dC dI cA n0 u0 nL y) : zWA p l e R s m args below meth c Q b B L xs dC dI cA n0 u0 nL (pc, ls, st, h) := by
  unfold zjumpN at hs
  split at hs
  · rename_i q r
    intro H locs la hR hS hl
    cases q with
    | none =>
      simp [zgo] at hs
      subst hs
      exact lv_ifnonnullN hx hb hdg (hW H locs la hR hS hl)
    | some q =>
      simp [zgo] at hs
      subst hs
      exact lv_ifnonnull hx hb hdg ht (hW H locs la hR hS hl)
  · cases hs
theorem zs_tab (hx : p.tables.exec = Jvm.exec) (hb : c.code = cc) {d lo hi : Int} {offs : Array Int} {len : Nat} (hdg : decode cc pc = .ok (.tableswitch d lo hi offs, len)) (ht : (pc : Int) + d = (ztg pc d : Int)) (ht2 : ∀ off ∈ offs, (pc : Int) + off = (ztg pc off : Int)) (hs : ztab d lo hi offs pc ls st h = some (.inr y))
    (hW : zWA p l e R s m args below meth c Q b B L xs dC dI cA n0 u0 nL y) : zWA p l e R s m args below meth c Q b B L xs dC dI cA n0 u0 nL (pc, ls, st, h) := by
  unfold ztab at hs
  split at hs
  · rename_i v r
    intro H locs la hR hS hl
    show W _ _ _ _ _ _ _ _ _ _ _ _ _ _ _ (F0 m pc la (.int v :: r.map (ztr b B)))
    split at hs
    · rename_i hv
      simp only [zgo, Option.some.injEq, Sum.inr.injEq] at hs
      subst hs
      exact lv_tableOut hx hb hdg hv ht (hW H locs la hR hS hl)
    · rename_i hv
      cases ho : offs[(v.toInt - lo).toNat]? with
      | none => rw [ho] at hs; cases hs
      | some off =>
        rw [ho] at hs
        simp only [Option.bind_some, zgo, Option.some.injEq, Sum.inr.injEq] at hs
        subst hs
        exact lv_tableIn hx hb hdg (fun q => hv (Or.inl q)) (fun q => hv (Or.inr q)) ho (ht2 off (Array.mem_of_getElem? ho)) (hW H locs la hR hS hl)
  · cases hs
theorem zs_look (hx : p.tables.exec = Jvm.exec) (hb : c.code = cc) {d : Int} {ps : Array (Int × Int)} {len : Nat} (hdg : decode cc pc = .ok (.lookupswitch d ps, len)) (hp : (ps.toList.zip (ps.toList.drop 1)).all (fun (a, next) => a.1 < next.1) = true) (ht : ∀ z : Int, (pc : Int) + Op.lookupswitch.offset ps.toList d z = (ztg pc (Op.lookupswitch.offset ps.toList d z) : Int)) (hs : zlook d ps pc ls st h = some (.inr y))
    (hW : zWA p l e R s m args below meth c Q b B L xs dC dI cA n0 u0 nL y) : zWA p l e R s m args below meth c Q b B L xs dC dI cA n0 u0 nL (pc, ls, st, h) := by
  unfold zlook at hs
  split at hs
  · rename_i v r
    simp only [zgo, Option.some.injEq, Sum.inr.injEq] at hs
    subst hs
    intro H locs la hR hS hl
    exact lv_lookup hx hb hdg hp rfl (ht _) (hW H locs la hR hS hl)
  · cases hs
end ZOPS
