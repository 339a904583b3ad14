/-! the night, as numbers: step, knowsNow, heardSet, heard, flights, hasCome -/
abbrev zNt : Type := Int32 × Int32 × Int32 × Int32 × Int32 × Int32
def zans (kd na nb t kn hd : Int32) : Bool := if kd = 0 then zbit kn na || zbit kn nb else (zbit kn na && zbit kn nb) || (decide (kd = 2) && zbit hd t)
def wlk (steps n a : Int32) : Int32 := if a + n < steps then a + n else steps
def cme (steps n a : Int32) : Int32 := if a + n < steps then 0 else 1
/-- a tale is told and its question asked: step, flights, hasCome behind it, where he has not come while it was told -/
def qP (steps bel kd na nb lo t : Int32) (s : zNt) : Int32 × Int32 × Int32 :=
  if zans kd na nb t s.2.1 s.2.2.1 = true then (0, s.2.2.2.2.1 + 1, 0) else if (zbit bel na || zbit bel nb) = true then (s.1 + lo, s.2.2.2.2.1, 0) else (wlk steps 1 (s.1 + lo), s.2.2.2.2.1, cme steps 1 (s.1 + lo))
def tP (steps bel kd na nb lo t : Int32) (s : zNt) : zNt :=
  if s.1 + lo < steps then ((qP steps bel kd na nb lo t s).1, s.2.1, s.2.2.1, s.2.2.2.1, (qP steps bel kd na nb lo t s).2.1, (qP steps bel kd na nb lo t s).2.2) else (steps, s.2.1, s.2.2.1, s.2.2.2.1, s.2.2.2.2.1, 1)
/-- one tale more -/
def hP (steps bel kd na nb te lo t : Int32) (hk : Bool) (s : zNt) : zNt :=
  if s.2.2.2.2.2 = 0 then
    if s.1 + lo < steps then ((qP steps bel kd na nb lo t s).1, if hk = true then s.2.1 ||| 1 <<< (te &&& 31) else s.2.1, s.2.2.1 ||| 1 <<< (t &&& 31), s.2.2.2.1 + 1, (qP steps bel kd na nb lo t s).2.1, (qP steps bel kd na nb lo t s).2.2)
    else (steps, s.2.1, s.2.2.1, s.2.2.2.1, s.2.2.2.2.1, 1)
  else s
/-- the reference's night in its heap -/
def mN (h : zH) (s : zNt) : zH := zwI (zwI (zwI (zwI (zwI (zwI h 37 18 s.1) 37 19 s.2.1) 37 20 s.2.2.1) 37 21 s.2.2.2.1) 37 22 s.2.2.2.2.1) 37 23 s.2.2.2.2.2
theorem mN_18 {h : zH} {a b c e f g v : Int32} : zwI (mN h (a, b, c, e, f, g)) 37 18 v = mN h (v, b, c, e, f, g) := by
  refine zH_ext rfl rfl (fun _ => rfl) (fun x y => ?_) (fun _ _ => rfl)
  simp only [mN, zi_wI]
  by_cases h1 : x = 37 ∧ y = 18
  · obtain ⟨rfl, rfl⟩ := h1
    simp
  · simp only [h1, if_false]
theorem mN_19 {h : zH} {a b c e f g v : Int32} : zwI (mN h (a, b, c, e, f, g)) 37 19 v = mN h (a, v, c, e, f, g) := by
  refine zH_ext rfl rfl (fun _ => rfl) (fun x y => ?_) (fun _ _ => rfl)
  simp only [mN, zi_wI]
  by_cases h1 : x = 37 ∧ y = 19
  · obtain ⟨rfl, rfl⟩ := h1
    simp
  · simp only [h1, if_false]
theorem mN_20 {h : zH} {a b c e f g v : Int32} : zwI (mN h (a, b, c, e, f, g)) 37 20 v = mN h (a, b, v, e, f, g) := by
  refine zH_ext rfl rfl (fun _ => rfl) (fun x y => ?_) (fun _ _ => rfl)
  simp only [mN, zi_wI]
  by_cases h1 : x = 37 ∧ y = 20
  · obtain ⟨rfl, rfl⟩ := h1
    simp
  · simp only [h1, if_false]
theorem mN_21 {h : zH} {a b c e f g v : Int32} : zwI (mN h (a, b, c, e, f, g)) 37 21 v = mN h (a, b, c, v, f, g) := by
  refine zH_ext rfl rfl (fun _ => rfl) (fun x y => ?_) (fun _ _ => rfl)
  simp only [mN, zi_wI]
  by_cases h1 : x = 37 ∧ y = 21
  · obtain ⟨rfl, rfl⟩ := h1
    simp
  · simp only [h1, if_false]
theorem mN_22 {h : zH} {a b c e f g v : Int32} : zwI (mN h (a, b, c, e, f, g)) 37 22 v = mN h (a, b, c, e, v, g) := by
  refine zH_ext rfl rfl (fun _ => rfl) (fun x y => ?_) (fun _ _ => rfl)
  simp only [mN, zi_wI]
  by_cases h1 : x = 37 ∧ y = 22
  · obtain ⟨rfl, rfl⟩ := h1
    simp
  · simp only [h1, if_false]
theorem mN_23 {h : zH} {a b c e f g v : Int32} : zwI (mN h (a, b, c, e, f, g)) 37 23 v = mN h (a, b, c, e, f, v) := by
  refine zH_ext rfl rfl (fun _ => rfl) (fun x y => ?_) (fun _ _ => rfl)
  simp only [mN, zi_wI]
  by_cases h1 : x = 37 ∧ y = 23
  · obtain ⟨rfl, rfl⟩ := h1
    simp
  · simp only [h1, if_false]
theorem mN_twice {h : zH} {s s' : zNt} : mN (mN h s) s' = mN h s' := by
  obtain ⟨a, b, c, e, f, g⟩ := s
  obtain ⟨a', b', c', e', f', g'⟩ := s'
  show zwI (zwI (zwI (zwI (zwI (zwI (mN h (a, b, c, e, f, g)) 37 18 a') 37 19 b') 37 20 c') 37 21 e') 37 22 f') 37 23 g' = _
  rw [mN_18, mN_19, mN_20, mN_21, mN_22, mN_23]
theorem zk_mN {h : zH} {s : zNt} {a : Nat} : zk (mN h s) a = zk h a := rfl
theorem zr_mN {h : zH} {s : zNt} {a j : Nat} : zr (mN h s) a j = zr h a j := rfl
theorem zn_mN {h : zH} {s : zNt} : zn (mN h s) = zn h := rfl
theorem zu_mN {h : zH} {s : zNt} : zu (mN h s) = zu h := rfl
theorem St_mN {h : zH} {s : zNt} : St (mN h s) = St h := rfl
theorem zi_mN {h : zH} {s : zNt} {x y : Nat} (hx : ¬ (x = 37 ∧ 18 ≤ y ∧ y ≤ 23)) : zi (mN h s) x y = zi h x y := by
  simp only [mN, zi_wI]
  rw [if_neg (by omega), if_neg (by omega), if_neg (by omega), if_neg (by omega), if_neg (by omega), if_neg (by omega)]
theorem zi_mN18 {h : zH} {s : zNt} : zi (mN h s) 37 18 = s.1 := by simp [mN, zi_wI]
theorem zi_mN19 {h : zH} {s : zNt} : zi (mN h s) 37 19 = s.2.1 := by simp [mN, zi_wI]
theorem zi_mN20 {h : zH} {s : zNt} : zi (mN h s) 37 20 = s.2.2.1 := by simp [mN, zi_wI]
theorem zi_mN21 {h : zH} {s : zNt} : zi (mN h s) 37 21 = s.2.2.2.1 := by simp [mN, zi_wI]
theorem zi_mN22 {h : zH} {s : zNt} : zi (mN h s) 37 22 = s.2.2.2.2.1 := by simp [mN, zi_wI]
theorem zi_mN23 {h : zH} {s : zNt} : zi (mN h s) 37 23 = s.2.2.2.2.2 := by simp [mN, zi_wI]
theorem Pres.mN {h h' : zH} (p : Pres h h') {s : zNt} : Pres h (mN h' s) := (((((p.w (by decide)).w (by decide)).w (by decide)).w (by decide)).w (by decide)).w (by decide)
