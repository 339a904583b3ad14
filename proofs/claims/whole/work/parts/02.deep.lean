/-! the deep machine: values, a heap of numbered cells, frames, one step -/
abbrev zV : Type := Int32 ⊕ (Int64 ⊕ Option Nat)
/-- cells, slots in use, kind and length of a cell, its ints, its references -/
abbrev zH : Type := Nat × Nat × (Nat → Nat × Nat) × (Nat → Nat → Int32) × (Nat → Nat → Option Nat)
abbrev zR : Type := Option zV × zH
abbrev zL : Type := List (Option zV)
abbrev zS : Type := Nat × zL × List zV × zH
/-- an instruction, its length, a number, a table -/
abbrev zO : Type := Instr × Nat × Int × List (Nat × Nat × Nat × String × String)
def zn (h : zH) : Nat := h.1
def zu (h : zH) : Nat := h.2.1
def zk (h : zH) (a : Nat) : Nat × Nat := h.2.2.1 a
def zi (h : zH) (a j : Nat) : Int32 := h.2.2.2.1 a j
def zr (h : zH) (a j : Nat) : Option Nat := h.2.2.2.2 a j
def zwI (h : zH) (a j : Nat) (v : Int32) : zH := (h.1, h.2.1, h.2.2.1, fun x y => if x = a ∧ y = j then v else h.2.2.2.1 x y, h.2.2.2.2)
def zwR (h : zH) (a j : Nat) (r : Option Nat) : zH := (h.1, h.2.1, h.2.2.1, h.2.2.2.1, fun x y => if x = a ∧ y = j then r else h.2.2.2.2 x y)
def zwC (h : zH) (a sp b dp n : Nat) : zH := (h.1, h.2.1, h.2.2.1, fun x y => if x = b ∧ dp ≤ y ∧ y < dp + n then h.2.2.2.1 a (sp + (y - dp)) else h.2.2.2.1 x y, h.2.2.2.2)
def zN (h : zH) (t n N : Nat) : zH := (h.1 + 1, h.2.1 + N, fun x => if x = h.1 then (t, n) else h.2.2.1 x, fun x y => if x = h.1 then 0 else h.2.2.2.1 x y, fun x y => if x = h.1 then none else h.2.2.2.2 x y)
def zix (i : Int32) (n : Nat) : Option Nat := if i < 0 ∨ n ≤ i.toNatClampNeg then none else some i.toNatClampNeg
/-- locals -/
def zcl (x : Option zV) : Option zV := match x with
  | some (.inr (.inl _)) => none
  | x => x
def zst1 : zL → Nat → zV → zL
  | [], _, _ => []
  | _ :: ls, 0, v => some v :: ls
  | [x], 1, _ => [x]
  | x :: _ :: ls, 1, v => zcl x :: some v :: ls
  | x :: ls, k + 2, v => x :: zst1 ls (k + 1) v
def zst2 (ls : zL) (i : Nat) (v : zV) : zL := (zst1 ls i v).set (i + 1) none
def zld (ls : zL) (i : Nat) : Option zV := match ls[i]? with
  | some (some v) => some v
  | _ => none
def zlong (v : zV) : Bool := match v with
  | .inr (.inl _) => true
  | _ => false
def zlsA : List zV → zL
  | [] => []
  | v :: vs => if zlong v then some v :: none :: zlsA vs else some v :: zlsA vs
def zls (vs : List zV) (n : Nat) : zL := zlsA vs ++ List.replicate (n - (zlsA vs).length) none
def zfind : List (Nat × Nat × Nat × String × String) → Nat → Option Nat
  | [], _ => none
  | q :: l, t => if q.1 = t then some q.2.1 else zfind l t
def ztg (pc : Nat) (off : Int) : Nat := ((pc : Int) + off).toNat
def zcond (c : ClassFile.Cond) (x y : Int32) : Bool := match c with
  | .eq => decide (x = y)
  | .ne => !decide (x = y)
  | .lt => decide (x < y)
  | .ge => decide (y ≤ x)
  | .gt => decide (y < x)
  | .le => decide (x ≤ y)
abbrev zT : Type := Option (zR ⊕ zS)
def zgo (pc : Nat) (ls : zL) (st : List zV) (h : zH) : zT := some (.inr (pc, ls, st, h))
def zpush (k pc : Nat) (ls : zL) (st : List zV) (h : zH) (v : zV) : zT := some (.inr (pc + k, ls, v :: st, h))
def zop2 (f : Int32 → Int32 → Option Int32) (pc : Nat) (ls : zL) (st : List zV) (h : zH) : zT := match st with
  | .inl y :: .inl x :: r => (f x y).bind fun v => zgo (pc + 1) ls (.inl v :: r) h
  | _ => none
def zop2l (f : Int64 → Int64 → Option Int64) (pc : Nat) (ls : zL) (st : List zV) (h : zH) : zT := match st with
  | .inr (.inl y) :: .inr (.inl x) :: r => (f x y).bind fun v => zgo (pc + 1) ls (.inr (.inl v) :: r) h
  | _ => none
def zop1 (f : Int32 → zV) (pc : Nat) (ls : zL) (st : List zV) (h : zH) : zT := match st with
  | .inl x :: r => zgo (pc + 1) ls (f x :: r) h
  | _ => none
/-- a load, a store: of kind 0 int, 1 long, 2 reference -/
def zload (w k i pc : Nat) (ls : zL) (st : List zV) (h : zH) : zT := match w, zld ls i with
  | 0, some (.inl v) => zpush k pc ls st h (.inl v)
  | 1, some (.inr (.inl v)) => zpush k pc ls st h (.inr (.inl v))
  | 2, some (.inr (.inr v)) => zpush k pc ls st h (.inr (.inr v))
  | _, _ => none
def zstore (w k i pc : Nat) (ls : zL) (st : List zV) (h : zH) : zT := match w, st with
  | 0, .inl v :: r => if i < ls.length then zgo (pc + k) (zst1 ls i (.inl v)) r h else none
  | 1, .inr (.inl v) :: r => if i + 1 < ls.length then zgo (pc + k) (zst2 ls i (.inr (.inl v))) r h else none
  | 2, .inr (.inr v) :: r => if i < ls.length then zgo (pc + k) (zst1 ls i (.inr (.inr v))) r h else none
  | _, _ => none
def zget (o : zO) (pc : Nat) (ls : zL) (st : List zV) (h : zH) : zT := match st with
  | .inr (.inr (some a)) :: r => (zfind o.2.2.2 (zk h a).1).bind fun k => if o.2.2.1 = 2 then zgo (pc + 3) ls (.inr (.inr (zr h a k)) :: r) h else zgo (pc + 3) ls (.inl (zi h a k) :: r) h
  | _ => none
def zput (o : zO) (pc : Nat) (ls : zL) (st : List zV) (h : zH) : zT := match st with
  | .inl v :: .inr (.inr (some a)) :: r => (zfind o.2.2.2 (zk h a).1).bind fun k => if o.2.2.1 = 0 ∨ (o.2.2.1 = 1 ∧ (v = 0 ∨ v = 1)) then zgo (pc + 3) ls r (zwI h a k v) else none
  | .inr (.inr q) :: .inr (.inr (some a)) :: r => (zfind o.2.2.2 (zk h a).1).bind fun k => if o.2.2.1 = 2 then zgo (pc + 3) ls r (zwR h a k q) else none
  | _ => none
def zald (pc : Nat) (ls : zL) (st : List zV) (h : zH) : zT := match st with
  | .inl i :: .inr (.inr (some a)) :: r => if (zk h a).1 = 12 ∨ (zk h a).1 = 16 then (zix i (zk h a).2).bind fun j => zgo (pc + 1) ls (.inl (zi h a j) :: r) h else none
  | _ => none
def zast (pc : Nat) (ls : zL) (st : List zV) (h : zH) : zT := match st with
  | .inl v :: .inl i :: .inr (.inr (some a)) :: r => if (zk h a).1 = 12 then (zix i (zk h a).2).bind fun j => zgo (pc + 1) ls r (zwI h a j v) else none
  | _ => none
def zaald (pc : Nat) (ls : zL) (st : List zV) (h : zH) : zT := match st with
  | .inl i :: .inr (.inr (some a)) :: r => if 13 ≤ (zk h a).1 ∧ (zk h a).1 ≤ 15 then (zix i (zk h a).2).bind fun j => zgo (pc + 1) ls (.inr (.inr (zr h a j)) :: r) h else none
  | _ => none
/-- which objects an array of references takes: array kind, class -/
def zfit (t c : Nat) : Bool := (t == 13 && (c == 8 || c == 0 || c == 5)) || (t == 14 && c == 4) || (t == 15 && c == 7)
def zaast (pc : Nat) (ls : zL) (st : List zV) (h : zH) : zT := match st with
  | .inr (.inr (some q)) :: .inl i :: .inr (.inr (some a)) :: r => if zfit (zk h a).1 (zk h q).1 = true then (zix i (zk h a).2).bind fun j => zgo (pc + 1) ls r (zwR h a j (some q)) else none
  | _ => none
def zalen (pc : Nat) (ls : zL) (st : List zV) (h : zH) : zT := match st with
  | .inr (.inr (some a)) :: r => if 12 ≤ (zk h a).1 ∧ (zk h a).1 ≤ 16 then zgo (pc + 1) ls (.inl (Int32.ofNat (zk h a).2) :: r) h else none
  | _ => none
def znew (o : zO) (pc : Nat) (ls : zL) (st : List zV) (h : zH) : zT := match o.2.2.2 with
  | [q] => zgo (pc + 3) ls (.inr (.inr (some (zn h))) :: st) (zN h q.1 0 q.2.1)
  | _ => none
def znewa (k t pc : Nat) (ls : zL) (st : List zV) (h : zH) : zT := match st with
  | .inl n :: r => if n < 0 ∨ 1000 < n.toNatClampNeg then none else zgo (pc + k) ls (.inr (.inr (some (zn h))) :: r) (zN h t n.toNatClampNeg n.toNatClampNeg)
  | _ => none
def zinst (o : zO) (pc : Nat) (ls : zL) (st : List zV) (h : zH) : zT := match st with
  | .inr (.inr (some a)) :: r => (zfind o.2.2.2 (zk h a).1).bind fun k => zgo (pc + 3) ls (.inl (if k = 1 then 1 else 0) :: r) h
  | _ => none
def zcopy (pc : Nat) (ls : zL) (st : List zV) (h : zH) : zT := match st with
  | .inl n :: .inl dp :: .inr (.inr (some q)) :: .inl sp :: .inr (.inr (some a)) :: r =>
    if (zk h a).1 = 12 ∧ (zk h q).1 = 12 ∧ ¬ n < 0 ∧ ¬ dp < 0 ∧ ¬ sp < 0 ∧ sp.toNatClampNeg + n.toNatClampNeg ≤ (zk h a).2 ∧ dp.toNatClampNeg + n.toNatClampNeg ≤ (zk h q).2 ∧ r = [] then zgo (pc + 3) ls r (zwC h a sp.toNatClampNeg q dp.toNatClampNeg n.toNatClampNeg) else none
  | _ => none
def zmax (pc : Nat) (ls : zL) (st : List zV) (h : zH) : zT := match st with
  | .inl y :: .inl x :: r => if r.length ≤ 4 then zgo (pc + 3) ls (.inl (if x < y then y else x) :: r) h else none
  | _ => none
def zmin (pc : Nat) (ls : zL) (st : List zV) (h : zH) : zT := match st with
  | .inl y :: .inl x :: r => if r.length ≤ 4 then zgo (pc + 3) ls (.inl (if y < x then y else x) :: r) h else none
  | _ => none
/-- a call's end: what it answers lies on what was below its arguments -/
def zback (pc : Nat) (ls : zL) (r : List zV) (q : Option zR) : zT := q.bind fun q => zgo (pc + 3) ls (q.1.toList ++ r) q.2
def zcallS (cal : Nat → List zV → zH → Option zR) (o : zO) (pc : Nat) (ls : zL) (st : List zV) (h : zH) : zT := match o.2.2.2 with
  | [q] => if o.2.2.1.toNat ≤ st.length ∧ st.length - o.2.2.1.toNat ≤ 4 then zback pc ls (st.drop o.2.2.1.toNat) (cal q.2.1 (st.take o.2.2.1.toNat).reverse h) else none
  | _ => none
def zcallV (cal : Nat → List zV → zH → Option zR) (o : zO) (pc : Nat) (ls : zL) (st : List zV) (h : zH) : zT := match st.drop o.2.2.1.toNat with
  | .inr (.inr (some a)) :: r => if r.length ≤ 4 then (zfind o.2.2.2 (zk h a).1).bind fun mid => zback pc ls r (cal mid (.inr (.inr (some a)) :: (st.take o.2.2.1.toNat).reverse) h) else none
  | _ => none
/-- the constructor, super's method: its number alone decides; -1: Object's constructor -/
def zcallI (cal : Nat → List zV → zH → Option zR) (o : zO) (pc : Nat) (ls : zL) (st : List zV) (h : zH) : zT :=
  if o.2.2.1 = -1 then (match st with
    | .inr (.inr (some _)) :: r => if r.length ≤ 4 then zgo (pc + 3) ls r h else none
    | _ => none)
  else match o.2.2.2, st.drop o.2.2.1.toNat with
    | [q], .inr (.inr (some a)) :: r => if r.length ≤ 4 ∧ (zk h a).1 < 12 then zback pc ls r (cal q.2.1 (.inr (.inr (some a)) :: (st.take o.2.2.1.toNat).reverse) h) else none
    | _, _ => none
def zjump (c : ClassFile.Cond) (off : Int) (pc : Nat) (ls : zL) (st : List zV) (h : zH) : zT := match st with
  | .inl x :: r => if zcond c x 0 = true then zgo (ztg pc off) ls r h else zgo (pc + 3) ls r h
  | _ => none
def zjump2 (c : ClassFile.Cond) (off : Int) (pc : Nat) (ls : zL) (st : List zV) (h : zH) : zT := match st with
  | .inl y :: .inl x :: r => if zcond c x y = true then zgo (ztg pc off) ls r h else zgo (pc + 3) ls r h
  | _ => none
def zjumpN (z : Bool) (off : Int) (pc : Nat) (ls : zL) (st : List zV) (h : zH) : zT := match st with
  | .inr (.inr q) :: r => if q.isNone = z then zgo (ztg pc off) ls r h else zgo (pc + 3) ls r h
  | _ => none
def ztab (d lo hi : Int) (offs : Array Int) (pc : Nat) (ls : zL) (st : List zV) (h : zH) : zT := match st with
  | .inl x :: r => if x.toInt < lo ∨ hi < x.toInt then zgo (ztg pc d) ls r h else (offs[(x.toInt - lo).toNat]?).bind fun off => zgo (ztg pc off) ls r h
  | _ => none
def zlook (d : Int) (ps : Array (Int × Int)) (pc : Nat) (ls : zL) (st : List zV) (h : zH) : zT := match st with
  | .inl x :: r => zgo (ztg pc (Op.lookupswitch.offset ps.toList d x.toInt)) ls r h
  | _ => none
def zdup (pc : Nat) (ls : zL) (st : List zV) (h : zH) : zT := match st with
  | v :: r => if zlong v = false then zgo (pc + 1) ls (v :: v :: r) h else none
  | _ => none
def zdup2 (pc : Nat) (ls : zL) (st : List zV) (h : zH) : zT := match st with
  | v :: w :: r => if zlong v = false ∧ zlong w = false then zgo (pc + 1) ls (v :: w :: v :: w :: r) h else none
  | _ => none
def zpop (pc : Nat) (ls : zL) (st : List zV) (h : zH) : zT := match st with
  | v :: r => if zlong v = false then zgo (pc + 1) ls r h else none
  | _ => none
def zinc (i : Nat) (n : Int) (pc : Nat) (ls : zL) (st : List zV) (h : zH) : zT := match zld ls i with
  | some (.inl x) => if i < ls.length then zgo (pc + 3) (zst1 ls i (.inl (x + Int32.ofInt n))) st h else none
  | _ => none
def zlcmp (pc : Nat) (ls : zL) (st : List zV) (h : zH) : zT := match st with
  | .inr (.inl y) :: .inr (.inl x) :: r => zgo (pc + 1) ls (.inl (lg_cmp x y) :: r) h
  | _ => none
/-- the end of a method: flag 1: a boolean's -/
def zret (o : zO) (st : List zV) (h : zH) : zT := match o.1, st with
  | .ireturn, [.inl v] => if o.2.2.1 = 1 ∧ ¬ (v = 0 ∨ v = 1) then none else some (.inl (some (.inl v), h))
  | .lreturn, [.inr (.inl v)] => some (.inl (some (.inr (.inl v)), h))
  | .areturn, [.inr (.inr v)] => some (.inl (some (.inr (.inr v)), h))
  | .return_, [] => some (.inl (none, h))
  | _, _ => none
def zstp (cal : Nat → List zV → zH → Option zR) (o : zO) (x : zS) : zT :=
  match o.1 with
  | .iconst n => zpush 1 x.1 x.2.1 x.2.2.1 x.2.2.2 (.inl (Int32.ofInt n))
  | .bipush n => zpush 2 x.1 x.2.1 x.2.2.1 x.2.2.2 (.inl (Int8.ofInt n).toInt32)
  | .sipush n => zpush 3 x.1 x.2.1 x.2.2.1 x.2.2.2 (.inl (Int16.ofInt n).toInt32)
  | .lconst n => zpush 1 x.1 x.2.1 x.2.2.1 x.2.2.2 (.inr (.inl (Int64.ofNat n)))
  | .ldc _ => zpush 2 x.1 x.2.1 x.2.2.1 x.2.2.2 (.inl (Int32.ofInt o.2.2.1))
  | .ldc_w _ => zpush 3 x.1 x.2.1 x.2.2.1 x.2.2.2 (.inl (Int32.ofInt o.2.2.1))
  | .ldc2_w _ => zpush 3 x.1 x.2.1 x.2.2.1 x.2.2.2 (.inr (.inl (Int64.ofInt o.2.2.1)))
  | .aconst_null => zpush 1 x.1 x.2.1 x.2.2.1 x.2.2.2 (.inr (.inr none))
  | .iload_n i => zload 0 1 i x.1 x.2.1 x.2.2.1 x.2.2.2
  | .iload i => zload 0 2 i x.1 x.2.1 x.2.2.1 x.2.2.2
  | .lload_n i => zload 1 1 i x.1 x.2.1 x.2.2.1 x.2.2.2
  | .lload i => zload 1 2 i x.1 x.2.1 x.2.2.1 x.2.2.2
  | .aload_n i => zload 2 1 i x.1 x.2.1 x.2.2.1 x.2.2.2
  | .aload i => zload 2 2 i x.1 x.2.1 x.2.2.1 x.2.2.2
  | .istore_n i => zstore 0 1 i x.1 x.2.1 x.2.2.1 x.2.2.2
  | .istore i => zstore 0 2 i x.1 x.2.1 x.2.2.1 x.2.2.2
  | .lstore_n i => zstore 1 1 i x.1 x.2.1 x.2.2.1 x.2.2.2
  | .lstore i => zstore 1 2 i x.1 x.2.1 x.2.2.1 x.2.2.2
  | .astore_n i => zstore 2 1 i x.1 x.2.1 x.2.2.1 x.2.2.2
  | .astore i => zstore 2 2 i x.1 x.2.1 x.2.2.1 x.2.2.2
  | .iinc i n => zinc i n x.1 x.2.1 x.2.2.1 x.2.2.2
  | .iadd => zop2 (fun x y => some (x + y)) x.1 x.2.1 x.2.2.1 x.2.2.2
  | .isub => zop2 (fun x y => some (x - y)) x.1 x.2.1 x.2.2.1 x.2.2.2
  | .imul => zop2 (fun x y => some (x * y)) x.1 x.2.1 x.2.2.1 x.2.2.2
  | .iand => zop2 (fun x y => some (x &&& y)) x.1 x.2.1 x.2.2.1 x.2.2.2
  | .ior => zop2 (fun x y => some (x ||| y)) x.1 x.2.1 x.2.2.1 x.2.2.2
  | .ixor => zop2 (fun x y => some (x ^^^ y)) x.1 x.2.1 x.2.2.1 x.2.2.2
  | .ishl => zop2 (fun x y => some (x <<< (y &&& 31))) x.1 x.2.1 x.2.2.1 x.2.2.2
  | .ishr => zop2 (fun x y => some (x >>> (y &&& 31))) x.1 x.2.1 x.2.2.1 x.2.2.2
  | .iushr => zop2 (fun x y => some (x.toUInt32 >>> (y.toUInt32 &&& Int32.toUInt32 31)).toInt32) x.1 x.2.1 x.2.2.1 x.2.2.2
  | .idiv => zop2 (fun x y => if y = 0 then none else some (x / y)) x.1 x.2.1 x.2.2.1 x.2.2.2
  | .irem => zop2 (fun x y => if y = 0 then none else some (x - x / y * y)) x.1 x.2.1 x.2.2.1 x.2.2.2
  | .ineg => zop1 (fun x => .inl (-x)) x.1 x.2.1 x.2.2.1 x.2.2.2
  | .i2l => zop1 (fun x => .inr (.inl x.toInt64)) x.1 x.2.1 x.2.2.1 x.2.2.2
  | .i2b => zop1 (fun x => .inl x.toInt8.toInt32) x.1 x.2.1 x.2.2.1 x.2.2.2
  | .i2s => zop1 (fun x => .inl x.toInt16.toInt32) x.1 x.2.1 x.2.2.1 x.2.2.2
  | .ladd => zop2l (fun x y => some (x + y)) x.1 x.2.1 x.2.2.1 x.2.2.2
  | .lsub => zop2l (fun x y => some (x - y)) x.1 x.2.1 x.2.2.1 x.2.2.2
  | .lmul => zop2l (fun x y => some (x * y)) x.1 x.2.1 x.2.2.1 x.2.2.2
  | .ldiv => zop2l (fun x y => if y = 0 then none else some (x / y)) x.1 x.2.1 x.2.2.1 x.2.2.2
  | .lrem => zop2l (fun x y => if y = 0 then none else some (x - x / y * y)) x.1 x.2.1 x.2.2.1 x.2.2.2
  | .lcmp => zlcmp x.1 x.2.1 x.2.2.1 x.2.2.2
  | .dup => zdup x.1 x.2.1 x.2.2.1 x.2.2.2
  | .dup2 => zdup2 x.1 x.2.1 x.2.2.1 x.2.2.2
  | .pop => zpop x.1 x.2.1 x.2.2.1 x.2.2.2
  | .ifCond c off => zjump c off x.1 x.2.1 x.2.2.1 x.2.2.2
  | .if_icmp c off => zjump2 c off x.1 x.2.1 x.2.2.1 x.2.2.2
  | .ifnull off => zjumpN true off x.1 x.2.1 x.2.2.1 x.2.2.2
  | .ifnonnull off => zjumpN false off x.1 x.2.1 x.2.2.1 x.2.2.2
  | .goto off => zgo (ztg x.1 off) x.2.1 x.2.2.1 x.2.2.2
  | .tableswitch d lo hi offs => ztab d lo hi offs x.1 x.2.1 x.2.2.1 x.2.2.2
  | .lookupswitch d ps => zlook d ps x.1 x.2.1 x.2.2.1 x.2.2.2
  | .getfield _ => zget o x.1 x.2.1 x.2.2.1 x.2.2.2
  | .putfield _ => zput o x.1 x.2.1 x.2.2.1 x.2.2.2
  | .iaload => zald x.1 x.2.1 x.2.2.1 x.2.2.2
  | .iastore => zast x.1 x.2.1 x.2.2.1 x.2.2.2
  | .aaload => zaald x.1 x.2.1 x.2.2.1 x.2.2.2
  | .aastore => zaast x.1 x.2.1 x.2.2.1 x.2.2.2
  | .arraylength => zalen x.1 x.2.1 x.2.2.1 x.2.2.2
  | .new _ => znew o x.1 x.2.1 x.2.2.1 x.2.2.2
  | .newarray .int => znewa 2 12 x.1 x.2.1 x.2.2.1 x.2.2.2
  | .anewarray _ => znewa 3 o.2.2.1.toNat x.1 x.2.1 x.2.2.1 x.2.2.2
  | .instanceof _ => zinst o x.1 x.2.1 x.2.2.1 x.2.2.2
  | .invokestatic _ => if o.2.2.1 = -2 then zcopy x.1 x.2.1 x.2.2.1 x.2.2.2 else if o.2.2.1 = -3 then zmax x.1 x.2.1 x.2.2.1 x.2.2.2 else if o.2.2.1 = -4 then zmin x.1 x.2.1 x.2.2.1 x.2.2.2 else zcallS cal o x.1 x.2.1 x.2.2.1 x.2.2.2
  | .invokevirtual _ => zcallV cal o x.1 x.2.1 x.2.2.1 x.2.2.2
  | .invokespecial _ => zcallI cal o x.1 x.2.1 x.2.2.1 x.2.2.2
  | .ireturn => zret o x.2.2.1 x.2.2.2
  | .lreturn => zret o x.2.2.1 x.2.2.2
  | .areturn => zret o x.2.2.1 x.2.2.2
  | .return_ => zret o x.2.2.1 x.2.2.2
  | _ => none
/-- so many steps -/
def zex (cal : Nat → List zV → zH → Option zR) (cd : Nat → Option zO) : Nat → zS → Option zR
  | 0, _ => none
  | n + 1, x => match (cd x.1).bind fun o => zstp cal o x with
    | none => none
    | some (.inl r) => some r
    | some (.inr y) => zex cal cd n y
theorem zex_up {cal : Nat → List zV → zH → Option zR} {cd : Nat → Option zO} : ∀ (n k : Nat) (x : zS) (r : zR), zex cal cd n x = some r → zex cal cd (n + k) x = some r
  | 0, _, _, _, h => by simp [zex] at h
  | n + 1, k, x, r, h => by
    rw [Nat.add_right_comm]
    simp only [zex] at h ⊢
    cases hs : (cd x.1).bind fun o => zstp cal o x with
    | none => rw [hs] at h; exact h
    | some w =>
      rw [hs] at h
      cases w with
      | inl q => exact h
      | inr y => exact zex_up n k y r h
theorem zex_one {cal : Nat → List zV → zH → Option zR} {cd : Nat → Option zO} {n k : Nat} {x : zS} {r q : zR} (h : zex cal cd n x = some r) (h2 : zex cal cd k x = some q) : r = q := by
  have a := zex_up n k x r h
  have b := zex_up k n x q h2
  rw [Nat.add_comm] at b
  rw [a] at b
  exact Option.some.inj b
/-- to the end, if there is one -/
noncomputable def zx (cal : Nat → List zV → zH → Option zR) (cd : Nat → Option zO) (x : zS) : Option zR :=
  @dite (Option zR) (∃ r n, zex cal cd n x = some r) (Classical.propDecidable _) (fun h => some (Classical.choose h)) (fun _ => none)
theorem zx_iff {cal : Nat → List zV → zH → Option zR} {cd : Nat → Option zO} {x : zS} {r : zR} : zx cal cd x = some r ↔ ∃ n, zex cal cd n x = some r := by
  unfold zx
  by_cases h : ∃ r n, zex cal cd n x = some r
  · rw [dif_pos h]
    obtain ⟨k, hk⟩ := Classical.choose_spec h
    constructor
    · intro e
      rw [← Option.some.inj e]
      exact ⟨k, hk⟩
    · rintro ⟨n, hn⟩
      rw [zex_one hk hn]
  · rw [dif_neg h]
    constructor
    · intro e
      cases e
    · rintro ⟨n, hn⟩
      exact absurd ⟨r, n, hn⟩ h
/-- what one step makes of it -/
def zaft (k : zS → Option zR) (t : zT) : Option zR := match t with
  | none => none
  | some (.inl r) => some r
  | some (.inr y) => k y
theorem zx_unf (cal : Nat → List zV → zH → Option zR) (cd : Nat → Option zO) (x : zS) : zx cal cd x = zaft (zx cal cd) ((cd x.1).bind fun o => zstp cal o x) := by
  apply Option.ext
  intro r
  rw [zx_iff]
  constructor
  · rintro ⟨n, hn⟩
    cases n with
    | zero => simp [zex] at hn
    | succ n =>
      simp only [zex] at hn
      cases hs : (cd x.1).bind fun o => zstp cal o x with
      | none => rw [hs] at hn; cases hn
      | some w =>
        rw [hs] at hn
        cases w with
        | inl q => exact hn
        | inr y => exact zx_iff.mpr ⟨n, hn⟩
  · intro h
    cases hs : (cd x.1).bind fun o => zstp cal o x with
    | none => rw [hs] at h; cases h
    | some w =>
      rw [hs] at h
      cases w with
      | inl q =>
        refine ⟨1, ?_⟩
        simp only [zex, hs]
        exact h
      | inr y =>
        obtain ⟨n, hn⟩ := zx_iff.mp h
        refine ⟨n + 1, ?_⟩
        simp only [zex, hs]
        exact hn
/-- calls, so deep: P gives a method's locals and code -/
noncomputable def zcall (P : Nat → Nat × (Nat → Option zO)) : Nat → Nat → List zV → zH → Option zR
  | 0, _, _, _ => none
  | d + 1, mid, args, h => if (zlsA args).length ≤ (P mid).1 then zx (zcall P d) (P mid).2 (0, zls args (P mid).1, [], h) else none
theorem zcall_succ (P : Nat → Nat × (Nat → Option zO)) (d mid : Nat) (args : List zV) (h : zH) : zcall P (d + 1) mid args h = if (zlsA args).length ≤ (P mid).1 then zx (zcall P d) (P mid).2 (0, zls args (P mid).1, [], h) else none := by
  simp only [zcall]
