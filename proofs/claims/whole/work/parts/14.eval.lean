/-! the deep machine, instruction by instruction, as equations -/
noncomputable def zX (d : Nat) (tb : List (Nat × zO)) (pc : Nat) (ls : zL) (st : List zV) (h : zH) : Option zR := zx (zcall (zP zM) d) (zlk tb) (pc, ls, st, h)
section ZEV
variable {d : Nat} {tb : List (Nat × zO)} {pc : Nat} {ls : zL} {st : List zV} {h : zH}
theorem zX_unf {o : zO} (ho : zlk tb pc = some o) : zX d tb pc ls st h = zaft (fun y => zX d tb y.1 y.2.1 y.2.2.1 y.2.2.2) (zstp (zcall (zP zM) d) o (pc, ls, st, h)) := by
  unfold zX
  rw [zx_unf]
  show zaft _ ((zlk tb pc).bind _) = _
  rw [ho]
  rfl
theorem zaft_ite {k : zS → Option zR} {c : Prop} [Decidable c] {a b : zT} : zaft k (if c then a else b) = if c then zaft k a else zaft k b := by
  split <;> rfl
theorem zaft_bind {α : Type} {k : zS → Option zR} {q : Option α} {f : α → zT} : zaft k (q.bind f) = q.bind fun v => zaft k (f v) := by
  cases q <;> rfl
theorem ux_if_eq {off : Int} {l : Nat} {k : Int} {t : List (Nat × Nat × Nat × String × String)} {tgt : Nat} {x : Int32} (ho : zlk tb pc = some (.ifCond .eq off, l, k, t)) (ht : ztg pc off = tgt) : zX d tb pc ls (.inl x :: st) h = if x = 0 then zX d tb tgt ls st h else zX d tb (pc + 3) ls st h := by
  subst ht
  rw [zX_unf ho]
  by_cases q : x = 0
  · simp [zstp, zjump, zcond, zgo, zaft, q]
  · simp [zstp, zjump, zcond, zgo, zaft, q]
theorem ux_if_ne {off : Int} {l : Nat} {k : Int} {t : List (Nat × Nat × Nat × String × String)} {tgt : Nat} {x : Int32} (ho : zlk tb pc = some (.ifCond .ne off, l, k, t)) (ht : ztg pc off = tgt) : zX d tb pc ls (.inl x :: st) h = if x = 0 then zX d tb (pc + 3) ls st h else zX d tb tgt ls st h := by
  subst ht
  rw [zX_unf ho]
  by_cases q : x = 0
  · simp [zstp, zjump, zcond, zgo, zaft, q]
  · simp [zstp, zjump, zcond, zgo, zaft, q]
theorem ux_if_lt {off : Int} {l : Nat} {k : Int} {t : List (Nat × Nat × Nat × String × String)} {tgt : Nat} {x : Int32} (ho : zlk tb pc = some (.ifCond .lt off, l, k, t)) (ht : ztg pc off = tgt) : zX d tb pc ls (.inl x :: st) h = if x < 0 then zX d tb tgt ls st h else zX d tb (pc + 3) ls st h := by
  subst ht
  rw [zX_unf ho]
  by_cases q : x < 0
  · simp [zstp, zjump, zcond, zgo, zaft, q]
  · simp [zstp, zjump, zcond, zgo, zaft, q]
theorem ux_if_ge {off : Int} {l : Nat} {k : Int} {t : List (Nat × Nat × Nat × String × String)} {tgt : Nat} {x : Int32} (ho : zlk tb pc = some (.ifCond .ge off, l, k, t)) (ht : ztg pc off = tgt) : zX d tb pc ls (.inl x :: st) h = if x < 0 then zX d tb (pc + 3) ls st h else zX d tb tgt ls st h := by
  subst ht
  rw [zX_unf ho]
  by_cases q : x < 0
  · have q2 : ¬ 0 ≤ x := Int32.not_le.mpr q
    simp [zstp, zjump, zcond, zgo, zaft, q, q2]
  · have q2 : 0 ≤ x := Int32.not_lt.mp q
    simp [zstp, zjump, zcond, zgo, zaft, q, q2]
theorem ux_if_gt {off : Int} {l : Nat} {k : Int} {t : List (Nat × Nat × Nat × String × String)} {tgt : Nat} {x : Int32} (ho : zlk tb pc = some (.ifCond .gt off, l, k, t)) (ht : ztg pc off = tgt) : zX d tb pc ls (.inl x :: st) h = if 0 < x then zX d tb tgt ls st h else zX d tb (pc + 3) ls st h := by
  subst ht
  rw [zX_unf ho]
  by_cases q : 0 < x
  · simp [zstp, zjump, zcond, zgo, zaft, q]
  · simp [zstp, zjump, zcond, zgo, zaft, q]
theorem ux_if_le {off : Int} {l : Nat} {k : Int} {t : List (Nat × Nat × Nat × String × String)} {tgt : Nat} {x : Int32} (ho : zlk tb pc = some (.ifCond .le off, l, k, t)) (ht : ztg pc off = tgt) : zX d tb pc ls (.inl x :: st) h = if 0 < x then zX d tb (pc + 3) ls st h else zX d tb tgt ls st h := by
  subst ht
  rw [zX_unf ho]
  by_cases q : 0 < x
  · have q2 : ¬ x ≤ 0 := Int32.not_le.mpr q
    simp [zstp, zjump, zcond, zgo, zaft, q, q2]
  · have q2 : x ≤ 0 := Int32.not_lt.mp q
    simp [zstp, zjump, zcond, zgo, zaft, q, q2]
theorem ux_ic_eq {off : Int} {l : Nat} {k : Int} {t : List (Nat × Nat × Nat × String × String)} {tgt : Nat} {x y : Int32} (ho : zlk tb pc = some (.if_icmp .eq off, l, k, t)) (ht : ztg pc off = tgt) : zX d tb pc ls (.inl y :: .inl x :: st) h = if x = y then zX d tb tgt ls st h else zX d tb (pc + 3) ls st h := by
  subst ht
  rw [zX_unf ho]
  by_cases q : x = y
  · simp [zstp, zjump2, zcond, zgo, zaft, q]
  · simp [zstp, zjump2, zcond, zgo, zaft, q]
theorem ux_ic_ne {off : Int} {l : Nat} {k : Int} {t : List (Nat × Nat × Nat × String × String)} {tgt : Nat} {x y : Int32} (ho : zlk tb pc = some (.if_icmp .ne off, l, k, t)) (ht : ztg pc off = tgt) : zX d tb pc ls (.inl y :: .inl x :: st) h = if x = y then zX d tb (pc + 3) ls st h else zX d tb tgt ls st h := by
  subst ht
  rw [zX_unf ho]
  by_cases q : x = y
  · simp [zstp, zjump2, zcond, zgo, zaft, q]
  · simp [zstp, zjump2, zcond, zgo, zaft, q]
theorem ux_ic_lt {off : Int} {l : Nat} {k : Int} {t : List (Nat × Nat × Nat × String × String)} {tgt : Nat} {x y : Int32} (ho : zlk tb pc = some (.if_icmp .lt off, l, k, t)) (ht : ztg pc off = tgt) : zX d tb pc ls (.inl y :: .inl x :: st) h = if x < y then zX d tb tgt ls st h else zX d tb (pc + 3) ls st h := by
  subst ht
  rw [zX_unf ho]
  by_cases q : x < y
  · simp [zstp, zjump2, zcond, zgo, zaft, q]
  · simp [zstp, zjump2, zcond, zgo, zaft, q]
theorem ux_ic_ge {off : Int} {l : Nat} {k : Int} {t : List (Nat × Nat × Nat × String × String)} {tgt : Nat} {x y : Int32} (ho : zlk tb pc = some (.if_icmp .ge off, l, k, t)) (ht : ztg pc off = tgt) : zX d tb pc ls (.inl y :: .inl x :: st) h = if x < y then zX d tb (pc + 3) ls st h else zX d tb tgt ls st h := by
  subst ht
  rw [zX_unf ho]
  by_cases q : x < y
  · have q2 : ¬ y ≤ x := Int32.not_le.mpr q
    simp [zstp, zjump2, zcond, zgo, zaft, q, q2]
  · have q2 : y ≤ x := Int32.not_lt.mp q
    simp [zstp, zjump2, zcond, zgo, zaft, q, q2]
theorem ux_ic_gt {off : Int} {l : Nat} {k : Int} {t : List (Nat × Nat × Nat × String × String)} {tgt : Nat} {x y : Int32} (ho : zlk tb pc = some (.if_icmp .gt off, l, k, t)) (ht : ztg pc off = tgt) : zX d tb pc ls (.inl y :: .inl x :: st) h = if y < x then zX d tb tgt ls st h else zX d tb (pc + 3) ls st h := by
  subst ht
  rw [zX_unf ho]
  by_cases q : y < x
  · simp [zstp, zjump2, zcond, zgo, zaft, q]
  · simp [zstp, zjump2, zcond, zgo, zaft, q]
theorem ux_ic_le {off : Int} {l : Nat} {k : Int} {t : List (Nat × Nat × Nat × String × String)} {tgt : Nat} {x y : Int32} (ho : zlk tb pc = some (.if_icmp .le off, l, k, t)) (ht : ztg pc off = tgt) : zX d tb pc ls (.inl y :: .inl x :: st) h = if y < x then zX d tb (pc + 3) ls st h else zX d tb tgt ls st h := by
  subst ht
  rw [zX_unf ho]
  by_cases q : y < x
  · have q2 : ¬ x ≤ y := Int32.not_le.mpr q
    simp [zstp, zjump2, zcond, zgo, zaft, q, q2]
  · have q2 : x ≤ y := Int32.not_lt.mp q
    simp [zstp, zjump2, zcond, zgo, zaft, q, q2]
theorem ux_null {off : Int} {l : Nat} {k : Int} {t : List (Nat × Nat × Nat × String × String)} {tgt : Nat} {r : Option Nat} (ho : zlk tb pc = some (.ifnull off, l, k, t)) (ht : ztg pc off = tgt) : zX d tb pc ls (.inr (.inr r) :: st) h = if r = none then zX d tb tgt ls st h else zX d tb (pc + 3) ls st h := by
  subst ht
  rw [zX_unf ho]
  cases r <;> simp [zstp, zjumpN, zgo, zaft]
theorem ux_nonnull {off : Int} {l : Nat} {k : Int} {t : List (Nat × Nat × Nat × String × String)} {tgt : Nat} {r : Option Nat} (ho : zlk tb pc = some (.ifnonnull off, l, k, t)) (ht : ztg pc off = tgt) : zX d tb pc ls (.inr (.inr r) :: st) h = if r = none then zX d tb (pc + 3) ls st h else zX d tb tgt ls st h := by
  subst ht
  rw [zX_unf ho]
  cases r <;> simp [zstp, zjumpN, zgo, zaft]
/-- a field: where its class is among the table's -/
theorem ux_get {i l : Nat} {k : Int} {t : List (Nat × Nat × Nat × String × String)} {a : Nat} (ho : zlk tb pc = some (.getfield i, l, k, t)) (hk : k ≠ 2) : zX d tb pc ls (.inr (.inr (some a)) :: st) h = (zfind t (zk h a).1).bind fun j => zX d tb (pc + 3) ls (.inl (zi h a j) :: st) h := by
  rw [zX_unf ho]
  simp only [zstp, zget, zaft_bind]
  congr 1
  funext j
  rw [if_neg hk]
  rfl
theorem ux_getr {i l : Nat} {t : List (Nat × Nat × Nat × String × String)} {a : Nat} (ho : zlk tb pc = some (.getfield i, l, 2, t)) : zX d tb pc ls (.inr (.inr (some a)) :: st) h = (zfind t (zk h a).1).bind fun j => zX d tb (pc + 3) ls (.inr (.inr (zr h a j)) :: st) h := by
  rw [zX_unf ho]
  simp only [zstp, zget, zaft_bind]
  congr 1
theorem ux_put {i l : Nat} {t : List (Nat × Nat × Nat × String × String)} {a : Nat} {v : Int32} (ho : zlk tb pc = some (.putfield i, l, 0, t)) : zX d tb pc ls (.inl v :: .inr (.inr (some a)) :: st) h = (zfind t (zk h a).1).bind fun j => zX d tb (pc + 3) ls st (zwI h a j v) := by
  rw [zX_unf ho]
  simp only [zstp, zput, zaft_bind]
  congr 1
theorem ux_putz {i l : Nat} {t : List (Nat × Nat × Nat × String × String)} {a : Nat} {v : Int32} (ho : zlk tb pc = some (.putfield i, l, 1, t)) : zX d tb pc ls (.inl v :: .inr (.inr (some a)) :: st) h = (zfind t (zk h a).1).bind fun j => if v = 0 ∨ v = 1 then zX d tb (pc + 3) ls st (zwI h a j v) else none := by
  rw [zX_unf ho]
  simp only [zstp, zput, zaft_bind]
  congr 1
  funext j
  rw [zaft_ite]
  simp [zgo, zaft]
theorem ux_putr {i l : Nat} {t : List (Nat × Nat × Nat × String × String)} {a : Nat} {r : Option Nat} (ho : zlk tb pc = some (.putfield i, l, 2, t)) : zX d tb pc ls (.inr (.inr r) :: .inr (.inr (some a)) :: st) h = (zfind t (zk h a).1).bind fun j => zX d tb (pc + 3) ls st (zwR h a j r) := by
  rw [zX_unf ho]
  simp only [zstp, zput, zaft_bind]
  congr 1
theorem ux_ald {l : Nat} {k : Int} {t : List (Nat × Nat × Nat × String × String)} {a : Nat} {i : Int32} (ho : zlk tb pc = some (.iaload, l, k, t)) : zX d tb pc ls (.inl i :: .inr (.inr (some a)) :: st) h = if (zk h a).1 = 12 ∨ (zk h a).1 = 16 then (zix i (zk h a).2).bind fun j => zX d tb (pc + 1) ls (.inl (zi h a j) :: st) h else none := by
  rw [zX_unf ho]
  simp only [zstp, zald, zaft_ite, zaft_bind]
  rfl
theorem ux_ast {l : Nat} {k : Int} {t : List (Nat × Nat × Nat × String × String)} {a : Nat} {i v : Int32} (ho : zlk tb pc = some (.iastore, l, k, t)) : zX d tb pc ls (.inl v :: .inl i :: .inr (.inr (some a)) :: st) h = if (zk h a).1 = 12 then (zix i (zk h a).2).bind fun j => zX d tb (pc + 1) ls st (zwI h a j v) else none := by
  rw [zX_unf ho]
  simp only [zstp, zast, zaft_ite, zaft_bind]
  rfl
theorem ux_aald {l : Nat} {k : Int} {t : List (Nat × Nat × Nat × String × String)} {a : Nat} {i : Int32} (ho : zlk tb pc = some (.aaload, l, k, t)) : zX d tb pc ls (.inl i :: .inr (.inr (some a)) :: st) h = if 13 ≤ (zk h a).1 ∧ (zk h a).1 ≤ 15 then (zix i (zk h a).2).bind fun j => zX d tb (pc + 1) ls (.inr (.inr (zr h a j)) :: st) h else none := by
  rw [zX_unf ho]
  simp only [zstp, zaald, zaft_ite, zaft_bind]
  rfl
theorem ux_aast {l : Nat} {k : Int} {t : List (Nat × Nat × Nat × String × String)} {a q : Nat} {i : Int32} (ho : zlk tb pc = some (.aastore, l, k, t)) : zX d tb pc ls (.inr (.inr (some q)) :: .inl i :: .inr (.inr (some a)) :: st) h = if zfit (zk h a).1 (zk h q).1 = true then (zix i (zk h a).2).bind fun j => zX d tb (pc + 1) ls st (zwR h a j (some q)) else none := by
  rw [zX_unf ho]
  simp only [zstp, zaast, zaft_ite, zaft_bind]
  rfl
theorem ux_alen {l : Nat} {k : Int} {t : List (Nat × Nat × Nat × String × String)} {a : Nat} (ho : zlk tb pc = some (.arraylength, l, k, t)) : zX d tb pc ls (.inr (.inr (some a)) :: st) h = if 12 ≤ (zk h a).1 ∧ (zk h a).1 ≤ 16 then zX d tb (pc + 1) ls (.inl (nI (zk h a).2) :: st) h else none := by
  rw [zX_unf ho]
  simp only [zstp, zalen, zaft_ite]
  rfl
theorem ux_newa {l : Nat} {k : Int} {t : List (Nat × Nat × Nat × String × String)} {n : Int32} (ho : zlk tb pc = some (.newarray .int, l, k, t)) : zX d tb pc ls (.inl n :: st) h = if n < 0 ∨ 1000 < n.toNatClampNeg then none else zX d tb (pc + 2) ls (.inr (.inr (some (zn h))) :: st) (zN h 12 n.toNatClampNeg n.toNatClampNeg) := by
  rw [zX_unf ho]
  simp only [zstp, znewa, zaft_ite]
  rfl
theorem ux_anew {i l : Nat} {k : Int} {t : List (Nat × Nat × Nat × String × String)} {n : Int32} {a : Nat} (ho : zlk tb pc = some (.anewarray i, l, k, t)) (hk : k.toNat = a) : zX d tb pc ls (.inl n :: st) h = if n < 0 ∨ 1000 < n.toNatClampNeg then none else zX d tb (pc + 3) ls (.inr (.inr (some (zn h))) :: st) (zN h a n.toNatClampNeg n.toNatClampNeg) := by
  subst hk
  rw [zX_unf ho]
  simp only [zstp, znewa, zaft_ite]
  rfl
theorem ux_inst {i l : Nat} {k : Int} {t : List (Nat × Nat × Nat × String × String)} {a : Nat} (ho : zlk tb pc = some (.instanceof i, l, k, t)) : zX d tb pc ls (.inr (.inr (some a)) :: st) h = (zfind t (zk h a).1).bind fun j => zX d tb (pc + 3) ls (.inl (if j = 1 then 1 else 0) :: st) h := by
  rw [zX_unf ho]
  simp only [zstp, zinst, zaft_bind]
  rfl
theorem ux_div {l : Nat} {k : Int} {t : List (Nat × Nat × Nat × String × String)} {x y : Int32} (ho : zlk tb pc = some (.idiv, l, k, t)) : zX d tb pc ls (.inl y :: .inl x :: st) h = if y = 0 then none else zX d tb (pc + 1) ls (.inl (x / y) :: st) h := by
  rw [zX_unf ho]
  by_cases q : y = 0 <;> simp [zstp, zop2, q, zaft, zgo]
theorem ux_rem {l : Nat} {k : Int} {t : List (Nat × Nat × Nat × String × String)} {x y : Int32} (ho : zlk tb pc = some (.irem, l, k, t)) : zX d tb pc ls (.inl y :: .inl x :: st) h = if y = 0 then none else zX d tb (pc + 1) ls (.inl (x - x / y * y) :: st) h := by
  rw [zX_unf ho]
  by_cases q : y = 0 <;> simp [zstp, zop2, q, zaft, zgo]
theorem ux_ldiv {l : Nat} {k : Int} {t : List (Nat × Nat × Nat × String × String)} {x y : Int64} (ho : zlk tb pc = some (.ldiv, l, k, t)) : zX d tb pc ls (.inr (.inl y) :: .inr (.inl x) :: st) h = if y = 0 then none else zX d tb (pc + 1) ls (.inr (.inl (x / y)) :: st) h := by
  rw [zX_unf ho]
  by_cases q : y = 0 <;> simp [zstp, zop2l, q, zaft, zgo]
theorem ux_lrem {l : Nat} {k : Int} {t : List (Nat × Nat × Nat × String × String)} {x y : Int64} (ho : zlk tb pc = some (.lrem, l, k, t)) : zX d tb pc ls (.inr (.inl y) :: .inr (.inl x) :: st) h = if y = 0 then none else zX d tb (pc + 1) ls (.inr (.inl (x - x / y * y)) :: st) h := by
  rw [zX_unf ho]
  by_cases q : y = 0 <;> simp [zstp, zop2l, q, zaft, zgo]
theorem ux_zret {l : Nat} {t : List (Nat × Nat × Nat × String × String)} {v : Int32} (ho : zlk tb pc = some (.ireturn, l, 1, t)) : zX d tb pc ls [.inl v] h = if v = 0 ∨ v = 1 then some (some (.inl v), h) else none := by
  rw [zX_unf ho]
  by_cases q : v = 0 ∨ v = 1 <;> simp [zstp, zret, q, zaft]
/-- calls: what the callee answers, then on -/
theorem zaft_back {k : zS → Option zR} {pc : Nat} {ls : zL} {r : List zV} {q : Option zR} : zaft k (zback pc ls r q) = q.bind fun q => k (pc + 3, ls, q.1.toList ++ r, q.2) := by
  cases q <;> rfl
theorem ztake {as r : List zV} : (as.reverse ++ r).take as.length = as.reverse := by
  rw [List.take_append_of_le_length (by simp), List.take_of_length_le (by simp)]
theorem zdrop {as r : List zV} : (as.reverse ++ r).drop as.length = r := by
  rw [List.drop_append_of_le_length (by simp), List.drop_eq_nil_of_le (by simp), List.nil_append]
theorem ux_callS {i l : Nat} {k : Int} {q : Nat × Nat × Nat × String × String} {n mid : Nat} {as r st : List zV} (ho : zlk tb pc = some (.invokestatic i, l, k, [q])) (hk : k = (n : Int)) (hm : q.2.1 = mid) (hst : st = as.reverse ++ r) (hn : as.length = n) (hr : r.length ≤ 4) : zX d tb pc ls st h = (zcall (zP zM) d mid as h).bind fun q => zX d tb (pc + 3) ls (q.1.toList ++ r) q.2 := by
  subst hk; subst hm; subst hst; subst hn
  rw [zX_unf ho]
  simp only [zstp]
  rw [if_neg (by omega), if_neg (by omega), if_neg (by omega)]
  unfold zcallS
  simp only [Int.toNat_natCast]
  rw [if_pos (by simp; omega), zaft_back, ztake, zdrop, List.reverse_reverse]
theorem ux_callV {i l : Nat} {k : Int} {t : List (Nat × Nat × Nat × String × String)} {n a : Nat} {as r st : List zV} (ho : zlk tb pc = some (.invokevirtual i, l, k, t)) (hk : k = (n : Int)) (hst : st = as.reverse ++ .inr (.inr (some a)) :: r) (hn : as.length = n) (hr : r.length ≤ 4) : zX d tb pc ls st h = (zfind t (zk h a).1).bind fun mid => (zcall (zP zM) d mid (.inr (.inr (some a)) :: as) h).bind fun q => zX d tb (pc + 3) ls (q.1.toList ++ r) q.2 := by
  subst hk; subst hst; subst hn
  rw [zX_unf ho]
  simp only [zstp]
  unfold zcallV
  simp only [Int.toNat_natCast, ztake, zdrop, List.reverse_reverse]
  rw [if_pos hr, zaft_bind]
  simp only [zaft_back]
theorem ux_callI {i l : Nat} {k : Int} {q : Nat × Nat × Nat × String × String} {n a mid : Nat} {as r st : List zV} (ho : zlk tb pc = some (.invokespecial i, l, k, [q])) (hk : k = (n : Int)) (hm : q.2.1 = mid) (hst : st = as.reverse ++ .inr (.inr (some a)) :: r) (hn : as.length = n) (hr : r.length ≤ 4) : zX d tb pc ls st h = if (zk h a).1 < 12 then (zcall (zP zM) d mid (.inr (.inr (some a)) :: as) h).bind fun q => zX d tb (pc + 3) ls (q.1.toList ++ r) q.2 else none := by
  subst hk; subst hm; subst hst; subst hn
  rw [zX_unf ho]
  simp only [zstp]
  unfold zcallI
  have hne : ¬ ((as.length : Int) = -1) := by omega
  simp only [hne, if_false, Int.toNat_natCast, ztake, zdrop, List.reverse_reverse]
  rw [zaft_ite, zaft_back]
  simp only [hr, true_and]
  rfl
theorem ux_copy {i l : Nat} {t : List (Nat × Nat × Nat × String × String)} {n dp sp : Int32} {q a : Nat} (ho : zlk tb pc = some (.invokestatic i, l, -2, t)) : zX d tb pc ls [.inl n, .inl dp, .inr (.inr (some q)), .inl sp, .inr (.inr (some a))] h = if (zk h a).1 = 12 ∧ (zk h q).1 = 12 ∧ ¬ n < 0 ∧ ¬ dp < 0 ∧ ¬ sp < 0 ∧ sp.toNatClampNeg + n.toNatClampNeg ≤ (zk h a).2 ∧ dp.toNatClampNeg + n.toNatClampNeg ≤ (zk h q).2 then zX d tb (pc + 3) ls [] (zwC h a sp.toNatClampNeg q dp.toNatClampNeg n.toNatClampNeg) else none := by
  rw [zX_unf ho]
  simp only [zstp, if_pos, zcopy, zaft_ite, and_true]
  rfl
end ZEV
theorem zcl_i (x : Int32) : zcl (some (.inl x)) = some (.inl x) := rfl
theorem zcl_r (x : Option Nat) : zcl (some (.inr (.inr x))) = some (.inr (.inr x)) := rfl
theorem zcl_l (x : Int64) : zcl (some (.inr (.inl x))) = none := rfl
theorem zcl_0 : zcl none = none := rfl
