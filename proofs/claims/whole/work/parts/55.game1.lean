/-! game: the search as a function -/
def pc (x : Nat) : Nat := x % 2 + x / 2 % 2 + x / 4 % 2 + x / 8 % 2 + x / 16 % 2 + x / 32 % 2 + x / 64 % 2 + x / 128 % 2
theorem pc_up : ∀ x, x < 256 → ∀ t, t < 8 → x.testBit t = false → pc (x ||| 2 ^ t) = pc x + 1 := by decide +kernel
theorem pc_all : ∀ N, N < 9 → ∀ x, x < 2 ^ N → pc x = N → x = 2 ^ N - 1 := by decide +kernel
theorem pc_not : ∀ N, N < 9 → pc (2 ^ N - 1) = N := by decide +kernel
theorem pc_un : ∀ N, N < 9 → ∀ x, x < 2 ^ N → ¬ pc x = N → ¬ ∀ t, t < N → x.testBit t = true := by decide +kernel
theorem all1 : ∀ N, N < 9 → (1 : Int32) <<< (nI N &&& 31) - 1 = nI (2 ^ N - 1) := by decide +kernel
def gmn (x : Nat) (f : Nat → Nat) : Nat → Nat → Nat
  | 0, a => a
  | t + 1, a => if x.testBit t = true then gmn x f t a else min (gmn x f t a) (f t)
theorem gmn_le {x : Nat} {f : Nat → Nat} {a : Nat} : ∀ {N : Nat}, gmn x f N a ≤ a := by
  intro N
  induction N with
  | zero => exact Nat.le_refl a
  | succ N ih =>
    rw [gmn]
    split
    · exact ih
    · omega
theorem gmn_mono {x : Nat} {f : Nat → Nat} {a t : Nat} : ∀ {N : Nat}, t ≤ N → gmn x f N a ≤ gmn x f t a := by
  intro N
  induction N with
  | zero => intro h; rw [show t = 0 by omega]; exact Nat.le_refl _
  | succ N ih =>
    intro h
    by_cases e : t = N + 1
    · rw [e]; exact Nat.le_refl _
    · have := ih (by omega)
      rw [gmn]
      split
      · exact this
      · omega
theorem gmn_skip {x : Nat} {f : Nat → Nat} {a u : Nat} : ∀ {t : Nat}, u ≤ t → (∀ y, u ≤ y → y < t → x.testBit y = true) → gmn x f t a = gmn x f u a := by
  intro t
  induction t with
  | zero => intro h _; rw [show u = 0 by omega]
  | succ t ih =>
    intro h q
    by_cases e : u = t + 1
    · rw [e]
    · rw [gmn, if_pos (q t (by omega) (by omega))]
      exact ih (by omega) (fun y h1 h2 => q y h1 (by omega))
theorem gmn_at {x : Nat} {f : Nat → Nat} {a t N : Nat} (h : t < N) (ht : x.testBit t = false) : gmn x f N a ≤ f t := by
  have h1 := gmn_mono (x := x) (f := f) (a := a) (show t + 1 ≤ N by omega)
  rw [gmn, if_neg (by rw [ht]; decide)] at h1
  omega
theorem gmn_min {x : Nat} {f : Nat → Nat} {a b : Nat} : ∀ {N : Nat}, gmn x f N (min a b) = min (gmn x f N a) b := by
  intro N
  induction N with
  | zero => rfl
  | succ N ih =>
    rw [gmn, gmn, ih]
    split
    · rfl
    · omega
theorem gmn_99 {x : Nat} {f : Nat → Nat} {sp N t : Nat} (hs : sp ≤ 9) (ht : t < N) (hx : x.testBit t = false) (hf : f t ≤ sp) : gmn x f N 99 = gmn x f N sp := by
  have h1 := gmn_at (f := f) (a := 99) ht hx
  have h2 := gmn_min (x := x) (f := f) (a := 99) (b := sp) (N := N)
  rw [show min 99 sp = sp by omega] at h2
  omega
def gV (mv : Nat → Nat → Int32 → Nat) (te : Nat → Int32) (sp N : Nat) : Nat → Nat → Int32 → Nat → Nat
  | 0, st, _, _ => st
  | m + 1, st, kn, x => if st = sp then sp else gmn x (fun t => max (gV mv te sp N m (mv t st kn) kn (x ||| 2 ^ t)) (gV mv te sp N m (mv t st kn) (kn ||| te t) (x ||| 2 ^ t))) N sp
theorem gV_le {mv : Nat → Nat → Int32 → Nat} {te : Nat → Int32} {sp N m st : Nat} {kn : Int32} {x : Nat} (h : st ≤ sp) : gV mv te sp N m st kn x ≤ sp := by
  cases m with
  | zero => exact h
  | succ m =>
    rw [gV]
    split
    · exact Nat.le_refl _
    · exact gmn_le
theorem gV_sp {mv : Nat → Nat → Int32 → Nat} {te : Nat → Int32} {sp N m : Nat} {kn : Int32} {x : Nat} : gV mv te sp N m sp kn x = sp := by
  cases m with
  | zero => rfl
  | succ m => rw [gV, if_pos rfl]
/-- one tale told at step st: the step behind it -/
def mvN (sp st lo : Nat) (an bl : Bool) : Nat := if st + lo < sp then (if an = true then 0 else if bl = true then st + lo else if st + lo + 1 < sp then st + lo + 1 else sp) else sp
theorem mvN_le {sp st lo : Nat} {an bl : Bool} : mvN sp st lo an bl ≤ sp := by
  unfold mvN
  split
  · split
    · omega
    · split
      · omega
      · split <;> omega
  · omega
def hmv (h : zH) (sp t st : Nat) (kn : Int32) : Nat := mvN sp st (zi h 42 t).toNatClampNeg (zans (zi h 38 t) (zi h 39 t) (zi h 40 t) (nI t) kn 0) (zbit (zi h 37 9) (zi h 39 t) || zbit (zi h 37 9) (zi h 40 t))
def hte (h : zH) (t : Nat) : Int32 := 1 <<< (zi h 41 t &&& 31)
theorem zans_un {kd na nb kn : Int32} {x t : Nat} (hx : x < 256) (ht : t < 8) (hb : x.testBit t = false) : zans kd na nb (nI t) kn (nI x) = zans kd na nb (nI t) kn 0 := by
  have h1 : zbit (nI x) (nI t) = false := (zb_tb x hx t ht).trans hb
  have h2 : zbit 0 (nI t) = false := (zb_tb 0 (by decide) t ht).trans (Nat.zero_testBit t)
  unfold zans
  rw [h1, h2]
/-- the steps of qP, as numbers -/
theorem qP_mv {h : zH} {sp t st lo : Nat} {kn hd e f : Int32} (s1 : zi h 37 1 = nI sp) (hs : sp ≤ 9) (h1 : 1 ≤ sp) (hl : zi h 42 t = nI lo) (hlo : lo < 4) (hst : st < sp) (ha : zans (zi h 38 t) (zi h 39 t) (zi h 40 t) (nI t) kn hd = zans (zi h 38 t) (zi h 39 t) (zi h 40 t) (nI t) kn 0) (g : st + lo < sp) :
    (qP (zi h 37 1) (zi h 37 9) (zi h 38 t) (zi h 39 t) (zi h 40 t) (zi h 42 t) (nI t) (nI st, kn, hd, e, f, 0)).1 = nI (hmv h sp t st kn) ∧ (qP (zi h 37 1) (zi h 37 9) (zi h 38 t) (zi h 39 t) (zi h 40 t) (zi h 42 t) (nI t) (nI st, kn, hd, e, f, 0)).2.2 = (if hmv h sp t st kn = sp then 1 else 0) := by
  have e0 : (zi h 42 t).toNatClampNeg = lo := by rw [hl, nI_clamp (by omega)]
  unfold hmv mvN qP
  rw [e0, if_pos g]
  simp only [ha, hl, s1, nI_add]
  by_cases a : zans (zi h 38 t) (zi h 39 t) (zi h 40 t) (nI t) kn 0 = true
  · rw [if_pos a, if_pos a, if_neg (by omega)]
    exact ⟨rfl, rfl⟩
  · rw [if_neg a, if_neg a]
    by_cases b : (zbit (zi h 37 9) (zi h 39 t) || zbit (zi h 37 9) (zi h 40 t)) = true
    · rw [if_pos b, if_pos b, if_neg (by omega)]
      exact ⟨rfl, rfl⟩
    · rw [if_neg b, if_neg b]
      unfold wlk cme
      rw [nI_1]
      by_cases c : st + lo + 1 < sp
      · have c' : nI (st + lo + 1) < nI sp := nI_lt c (by omega)
        rw [if_pos c', if_pos c', if_pos c, if_neg (by omega)]
        exact ⟨rfl, rfl⟩
      · have c' : ¬ nI (st + lo + 1) < nI sp := nI_nlt (by omega) (by omega)
        rw [if_neg c', if_neg c', if_neg c, if_pos rfl]
        exact ⟨rfl, rfl⟩
theorem hmv_far {h : zH} {sp t st lo : Nat} {kn : Int32} (hl : zi h 42 t = nI lo) (hlo : lo < 4) (g : ¬ st + lo < sp) : hmv h sp t st kn = sp := by
  have e0 : (zi h 42 t).toNatClampNeg = lo := by rw [hl, nI_clamp (by omega)]
  unfold hmv mvN
  rw [e0, if_neg g]
theorem tP_mv {h : zH} {sp t st lo : Nat} {kn : Int32} (s1 : zi h 37 1 = nI sp) (hs : sp ≤ 9) (h1 : 1 ≤ sp) (hl : zi h 42 t = nI lo) (hlo : lo < 4) (hst : st < sp) :
    (tP (zi h 37 1) (zi h 37 9) (zi h 38 t) (zi h 39 t) (zi h 40 t) (zi h 42 t) (nI t) (nI st, kn, 0, 0, 0, 0)).1 = nI (hmv h sp t st kn) ∧ (tP (zi h 37 1) (zi h 37 9) (zi h 38 t) (zi h 39 t) (zi h 40 t) (zi h 42 t) (nI t) (nI st, kn, 0, 0, 0, 0)).2.1 = kn ∧ (¬ hmv h sp t st kn = sp → nI st + zi h 42 t < zi h 37 1) := by
  have el : (nI st + zi h 42 t < zi h 37 1) = (st + lo < sp) := by rw [hl, s1, nI_add, nI_ltI' (by omega) (by omega)]
  unfold tP
  simp only [el]
  by_cases g : st + lo < sp
  · rw [if_pos g]
    exact ⟨(qP_mv (hd := 0) (e := 0) (f := 0) s1 hs h1 hl hlo hst rfl g).1, rfl, fun _ => g⟩
  · rw [if_neg g, hmv_far hl hlo g]
    exact ⟨s1, rfl, fun z => absurd rfl z⟩
theorem hP_mv {h : zH} {sp t st lo x : Nat} {kn e f te : Int32} (s1 : zi h 37 1 = nI sp) (hs : sp ≤ 9) (h1 : 1 ≤ sp) (hl : zi h 42 t = nI lo) (hlo : lo < 4) (hst : st < sp) (hx : x < 256) (ht : t < 8) (hb : x.testBit t = false) :
    ∃ hd' e' f' c', hP (zi h 37 1) (zi h 37 9) (zi h 38 t) (zi h 39 t) (zi h 40 t) te (zi h 42 t) (nI t) false (nI st, kn, nI x, e, f, 0) = (nI (hmv h sp t st kn), kn, hd', e', f', c') ∧ (hmv h sp t st kn = sp → c' = 1) ∧ (¬ hmv h sp t st kn = sp → c' = 0 ∧ hd' = nI (x ||| 2 ^ t)) := by
  have el : (nI st + zi h 42 t < zi h 37 1) = (st + lo < sp) := by rw [hl, s1, nI_add, nI_ltI' (by omega) (by omega)]
  unfold hP
  rw [if_pos rfl]
  simp only [el]
  by_cases g : st + lo < sp
  · rw [if_pos g]
    obtain ⟨q1, q2⟩ := qP_mv (hd := nI x) (e := e) (f := f) s1 hs h1 hl hlo hst (zans_un (kn := kn) hx ht hb) g
    refine ⟨_, _, _, _, by rw [q1, q2]; rfl, fun z => by rw [if_pos z], fun z => ⟨by rw [if_neg z], ?_⟩⟩
    rw [sh1 t ht, nI_or]
  · rw [if_neg g, hmv_far hl hlo g]
    exact ⟨_, _, _, _, by rw [s1], fun _ => rfl, fun z => absurd rfl z⟩
