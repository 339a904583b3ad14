/-! methods: name, code, locals, parameters, what it answers, its instructions -/
abbrev zQ : Type := MethodName × ByteArray × Nat × Nat × Option FieldType × List (Nat × zO)
def zlk : List (Nat × zO) → Nat → Option zO
  | [], _ => none
  | q :: l, pc => if q.1 = pc then some q.2 else zlk l pc
theorem zlk_mem : ∀ {tab : List (Nat × zO)} {pc : Nat} {o : zO}, zlk tab pc = some o → (pc, o) ∈ tab
  | [], pc, o, h => by simp [zlk] at h
  | q :: l, pc, o, h => by
    unfold zlk at h
    split at h
    · rename_i hq
      obtain ⟨q1, q2⟩ := q
      cases hq
      cases h
      exact List.mem_cons_self
    · exact List.mem_cons_of_mem _ (zlk_mem h)
def zP (M : Nat → zQ) (mid : Nat) : Nat × (Nat → Option zO) := ((M mid).2.2.1, zlk (M mid).2.2.2.2.2)
def zcode (M : Nat → zQ) (mid : Nat) : Cond := .code (M mid).1 (M mid).2.1 (M mid).2.2.1 (M mid).2.2.2.2.1
def zcomp (t : Nat) : Nat := if t = 13 then 8 else if t = 14 then 4 else 7
/-- the words that an instruction needs -/
def zref (q : Nat × Nat × Nat × String × String) : String := if q.2.2.1 = 0 then (zF q.1 q.2.1).1 else q.2.2.2.1
def zneedF (own : String) (i : Nat) (q : Nat × Nat × Nat × String × String) : List Cond :=
  .fieldLink own i (zref q) (zF q.1 q.2.1).2.1 (zF q.1 q.2.1).2.2.1 :: if q.2.2.1 = 0 then [] else [.sameField q.2.2.2.1 (zF q.1 q.2.1).1 (zF q.1 q.2.1).2.1 (zF q.1 q.2.1).2.2.1]
def zxn (M : Nat → zQ) (q : Nat × Nat × Nat × String × String) : MethodName := ⟨q.2.2.2.1, (M q.2.1).1.name, (M q.2.1).1.desc⟩
def zown (M : Nat → zQ) (q : Nat × Nat × Nat × String × String) : MethodName := ⟨q.2.2.2.2, (M q.2.1).1.name, (M q.2.1).1.desc⟩
/-- calls: 0 a method of the receiver's own class, 1 an inherited one, 2 static, 3 a nest mate's static, 4 a constructor, 5 super's, 10 + k one that overrides method k -/
def zneedC (M : Nat → zQ) (own : String) (i : Nat) (q : Nat × Nat × Nat × String × String) : List Cond := match q.2.2.1 with
  | 0 => [.methodLink own i (M q.2.1).1, .instanceMethod (M q.2.1).1, .selects (zC q.1) (M q.2.1).1 (M q.2.1).1, .initialized (zC q.1), zcode M q.2.1]
  | 1 => [.methodLink own i (zxn M q), .sameMethod q.2.2.2.1 q.2.2.2.2 (M q.2.1).1.name (M q.2.1).1.desc, .selects (zC q.1) (zxn M q) (M q.2.1).1, .instanceMethod (M q.2.1).1, .initialized (M q.2.1).1.cls, zcode M q.2.1]
  | 2 => [.methodLink own i (M q.2.1).1, .static (M q.2.1).1, .initialized (M q.2.1).1.cls, zcode M q.2.1]
  | 3 => [.static (M q.2.1).1, .initialized (M q.2.1).1.cls, zcode M q.2.1]
  | 4 => [.methodLink own i (M q.2.1).1, .instanceMethod (M q.2.1).1, .initialized (M q.2.1).1.cls, zcode M q.2.1]
  | 5 => [.methodLink own i (M q.2.1).1, .sameMethod (M q.2.1).1.cls (M q.2.1).1.cls (M q.2.1).1.name (M q.2.1).1.desc, .superclass own (M q.2.1).1.cls, .instanceMethod (M q.2.1).1, .initialized (M q.2.1).1.cls, zcode M q.2.1]
  | k => [.methodLink own i (zxn M q), .sameMethod q.2.2.2.1 q.2.2.2.2 (M q.2.1).1.name (M q.2.1).1.desc, .selects (zC q.1) (zxn M q) (M q.2.1).1, .instanceMethod (M q.2.1).1, .initialized (M q.2.1).1.cls, zcode M q.2.1, .instanceMethod (zown M q), zcode M (k - 10)]
def zneed (M : Nat → zQ) (own : String) (o : zO) : List Cond := match o.1 with
  | .ldc i => [.constant own i (Int32.ofInt o.2.2.1)]
  | .ldc_w i => [.constant own i (Int32.ofInt o.2.2.1)]
  | .ldc2_w i => [.constantLong own i (Int64.ofInt o.2.2.1)]
  | .getfield i => o.2.2.2.flatMap (zneedF own i)
  | .putfield i => o.2.2.2.flatMap (zneedF own i)
  | .new i => o.2.2.2.flatMap fun q => [.classLink own i (zC q.1), .instantiable (zC q.1) (zNF q.1), .initialized (zC q.1)]
  | .newarray _ => [.arrayClass .int]
  | .anewarray i => [.classLink own i (zC (zcomp o.2.2.1.toNat))]
  | .instanceof i => o.2.2.2.map fun q => .classLink own i q.2.2.2.1
  | .invokestatic i => if o.2.2.1 = -2 then [.methodLink own i arraycopyName, .native arraycopyName, .static arraycopyName, .initialized "java/lang/System"] else if o.2.2.1 = -3 then [.methodLink own i Lib.Math.max.name, .static Lib.Math.max.name, .initialized "java/lang/Math", .code Lib.Math.max.name Lib.Math.max.code 2 (some .int)] else if o.2.2.1 = -4 then [.methodLink own i Lib.Math.min.name, .static Lib.Math.min.name, .initialized "java/lang/Math", .code Lib.Math.min.name Lib.Math.min.code 2 (some .int)] else o.2.2.2.flatMap (zneedC M own i)
  | .invokevirtual i => o.2.2.2.flatMap (zneedC M own i)
  | .invokespecial i => if o.2.2.1 = -1 then [.methodLink own i objectInit, .instanceMethod objectInit, .code objectInit ⟨#[0xb1]⟩ 1 none] else o.2.2.2.flatMap (zneedC M own i)
  | _ => []
/-- words that are told apart: nest mates, casts, arrays over a class -/
def zneedN (M : Nat → zQ) (own : String) (o : zO) : List Cond := match o.1 with
  | .anewarray _ => [.arrayOver (.object (zC (zcomp o.2.2.1.toNat)))]
  | .instanceof _ => o.2.2.2.flatMap fun q => if q.2.2.1 = 1 then [.castable (zC q.1) q.2.2.2.1] else []
  | .invokestatic i => o.2.2.2.flatMap fun q => if q.2.2.1 = 3 then [.methodLinkNest own i (M q.2.1).1 q.2.2.2.1] else []
  | _ => []
/-- names that must be equal -/
def zeqs (M : Nat → zQ) (own : String) (o : zO) : List (String × String) := match o.1 with
  | .putfield _ => o.2.2.2.flatMap fun q => if (zF q.1 q.2.1).2.2.2 = true then [((zF q.1 q.2.1).1, own)] else []
  | .instanceof _ => o.2.2.2.flatMap fun q => match q.2.2.1 with
    | 0 => [(zC q.1, q.2.2.2.1)]
    | 2 => [(zC q.1, RX8), (q.2.2.2.1, RX5)]
    | 3 => [(zC q.1, RX8), (q.2.2.2.1, RX0)]
    | 4 => [(zC q.1, RX0), (q.2.2.2.1, RX5)]
    | _ => []
  | .invokevirtual _ => o.2.2.2.flatMap fun q => match q.2.2.1 with
    | 0 => [((M q.2.1).1.cls, zC q.1)]
    | 1 => [((M q.2.1).1.cls, q.2.2.2.2)]
    | k => [((M (k - 10)).1.cls, q.2.2.2.2), ((M (k - 10)).1.name, (M q.2.1).1.name), ((M (k - 10)).1.desc, (M q.2.1).1.desc)]
  | _ => []
def zint (pc : Nat) (off : Int) : Bool := decide ((pc : Int) + off = (ztg pc off : Int))
/-- numbers that must fit -/
def zoks (M : Nat → zQ) (nm : String) (ret : Option FieldType) (pc : Nat) (o : zO) : Bool := match o.1 with
  | .goto off => zint pc off
  | .ifCond _ off => zint pc off
  | .if_icmp _ off => zint pc off
  | .ifnull off => zint pc off
  | .ifnonnull off => zint pc off
  | .tableswitch d _ _ offs => zint pc d && offs.toList.all (zint pc)
  | .lookupswitch d ps => (ps.toList.zip (ps.toList.drop 1)).all (fun (a, next) => a.1 < next.1) && zint pc d && ps.toList.all (fun q => zint pc q.2)
  | .getfield _ => o.2.2.2.all fun q => decide (q.1 < 12) && decide (q.2.1 < zNF q.1) && (decide (o.2.2.1 = 2) == !zisI (zTy q.1 q.2.1))
  | .putfield _ => o.2.2.2.all fun q => decide (q.1 < 12) && decide (q.2.1 < zNF q.1) && ((zF q.1 q.2.1).2.2.2 == false || decide (nm = "<init>")) && (decide (o.2.2.1 ≠ 0) || decide (zTy q.1 q.2.1 = .int)) && (decide (o.2.2.1 ≠ 1) || decide (zTy q.1 q.2.1 = .boolean)) && (decide (o.2.2.1 ≠ 2) || (zokT (zTy q.1 q.2.1) && !zisI (zTy q.1 q.2.1)))
  | .new _ => o.2.2.2.all fun q => decide (q.1 < 12) && decide (q.2.1 = zNF q.1)
  | .anewarray _ => decide (13 ≤ o.2.2.1.toNat) && decide (o.2.2.1.toNat ≤ 15)
  | .instanceof _ => o.2.2.2.all fun q => decide (q.1 < 12) && decide (q.2.2.1 < 5) && (if q.2.2.1 < 2 then decide (q.2.1 = 1) else decide (q.2.1 = 0)) && o.2.2.2.all fun q2 => decide (q2.2.2.2.1 = q.2.2.2.1)
  | .invokestatic _ => decide (o.2.2.1 = -2) || decide (o.2.2.1 = -3) || decide (o.2.2.1 = -4) || o.2.2.2.all fun q => (decide (q.2.2.1 = 2) || decide (q.2.2.1 = 3)) && decide ((M q.2.1).2.2.2.1 = o.2.2.1.toNat)
  | .invokevirtual _ => o.2.2.2.all fun q => decide (q.1 < 12) && (decide (q.2.2.1 < 2) || decide (10 ≤ q.2.2.1)) && decide ((M q.2.1).2.2.2.1 = o.2.2.1.toNat)
  | .invokespecial _ => decide (o.2.2.1 = -1) || o.2.2.2.all fun q => (if q.2.2.1 = 4 then decide ((M q.2.1).1.name = "<init>") && decide ((M q.2.1).2.2.2.2.1 = none) else decide (q.2.2.1 = 5) && decide ((M q.2.1).1.name ≠ "<init>")) && decide ((M q.2.1).2.2.2.1 = o.2.2.1.toNat)
  | .ireturn => (decide (o.2.2.1 = 0) && decide (ret = some .int)) || (decide (o.2.2.1 = 1) && decide (ret = some .boolean))
  | .lreturn => decide (ret = some .long)
  | .areturn => match ret with
    | some (.object _) => true
    | some (.array _) => true
    | _ => false
  | .return_ => decide (ret = none)
  | _ => true
/-- how long an instruction is -/
def zlen (o : zO) : Nat := match o.1 with
  | .bipush _ => 2 | .ldc _ => 2 | .iload _ => 2 | .lload _ => 2 | .aload _ => 2 | .istore _ => 2 | .lstore _ => 2 | .astore _ => 2 | .newarray _ => 2
  | .sipush _ => 3 | .ldc_w _ => 3 | .ldc2_w _ => 3 | .iinc _ _ => 3 | .ifCond _ _ => 3 | .if_icmp _ _ => 3 | .ifnull _ => 3 | .ifnonnull _ => 3 | .goto _ => 3
  | .getfield _ => 3 | .putfield _ => 3 | .new _ => 3 | .anewarray _ => 3 | .instanceof _ => 3 | .invokestatic _ => 3 | .invokevirtual _ => 3 | .invokespecial _ => 3
  | .tableswitch _ _ _ _ => o.2.1
  | .lookupswitch _ _ => o.2.1
  | _ => 1
/-- all that a method's instructions need is there -/
def zTok (M : Nat → zQ) (own nm : String) (cc : ByteArray) (ret : Option FieldType) (tab : List (Nat × zO)) : Prop := ∀ q ∈ tab,
  decode cc q.1 = .ok (q.2.1, zlen q.2) ∧ (∀ w ∈ zneed M own q.2, w ∈ zGood) ∧ (∀ w ∈ zneedN M own q.2, w ∈ lw_tbl) ∧ (∀ z ∈ zeqs M own q.2, z.1 = z.2) ∧ zoks M nm ret q.1 q.2 = true
def zMok (M : Nat → zQ) (mid : Nat) : Prop := zTok M (M mid).1.cls (M mid).1.name (M mid).2.1 (M mid).2.2.2.2.1 (M mid).2.2.2.2.2 ∧ plainName (M mid).1.cls = true ∧ ((M mid).1.cls ≠ "java/lang/invoke/MethodHandle" ∧ (M mid).1.cls ≠ "java/lang/invoke/VarHandle") ∧ (parseMethodDescriptor (M mid).1.desc).map (fun d => d.parameters.length) = some (M mid).2.2.2.1 ∧ (M mid).2.2.1 ≤ 20
def zwsM (M : Nat → zQ) (mid : Nat) : List Cond := zcode M mid :: zGood
theorem zGood_good {w : Cond} (h : w ∈ zGood) : goodWord w = true := (List.mem_filter.mp h).2
theorem zGoodIn {ws : List Cond} (h : ∀ w ∈ ws, w ∈ zGood) : GoodIn zGood ws := fun w hw => ⟨h w hw, good_of_word (zGood_good (h w hw))⟩
theorem zwsM_in {M : Nat → zQ} {mid : Nat} (h : zcode M mid ∈ zGood) : ∀ w ∈ zwsM M mid, w ∈ zGood := fun w hw => (List.mem_cons.mp hw).elim (fun e => e ▸ h) id
def zrm (d mc ms : Nat) : Room := { frames := d, cells := mc, slots := ms, locals := 40 * d }
def zPc (b B L : Nat) (xs : Nat → Int32) (dC : Nat → ClassId) (dI : Nat → Nat → Nat) (cA : Nat → ClassId) (as : List zV) (h : zH) : Array Value → State → Prop := fun v U => v = (as.map (ztr b B)).toArray ∧ zRep b B L xs dC dI cA h U.heap ∧ zK dC dI cA U ∧ va_X b L xs U U.heap ∧ B ≤ U.heap.size
def zQc (b B L : Nat) (xs : Nat → Int32) (dC : Nat → ClassId) (dI : Nat → Nat → Nat) (cA : Nat → ClassId) (r : zR) : Array Value → State → Outcome → State → Prop := fun _ st oc t => oc = .returned (r.1.map (ztr b B)) ∧ zRep b B L xs dC dI cA r.2 t.heap ∧ va_F (fun q => B ≤ q) st t
theorem zPc_blind {b B L : Nat} {xs : Nat → Int32} {dC : Nat → ClassId} {dI : Nat → Nat → Nat} {cA : Nat → ClassId} {as : List zV} {h : zH} : FrameBlind (zPc b B L xs dC dI cA as h) := by
  intro a U g mk q
  obtain ⟨q1, q2, q3, q4, q5⟩ := q
  exact ⟨q1, q2, zK.moved (s := U) (U := U.calling g mk a) (State.WarmedH.refl U) q3, va_X.moved (u := U) (U := U.calling g mk a) (Vm.Alike.refl U.vm) q4, q5⟩
/-- what a call answers as a contract -/
def zMet (M : Nat → zQ) (l : Launch) (b B L : Nat) (xs : Nat → Int32) (dC : Nat → ClassId) (dI : Nat → Nat → Nat) (cA : Nat → ClassId) (d : Nat) : Prop := ∀ (mid : Nat) (as : List zV) (h : zH) (r : zR), zcall (zP M) d mid as h = some r →
  (zn h ≤ zn r.2 ∧ zu h ≤ zu r.2) ∧ (zcode M mid ∈ zGood → Met l (M mid).1 (zwsM M mid) (zrm d (zn r.2 - zn h) (zu r.2 - zu h)) (zPc b B L xs dC dI cA as h) (zQc b B L xs dC dI cA r) (zn r.2 - zn h) (zu r.2 - zu h) (fun q => B ≤ q))
