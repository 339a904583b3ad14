/-! the class's night: a cell of eight numbers -/
def cN (h : zH) (a : Nat) (s : zNt) (sp bl : Int32) : zH := zwI (zwI (zwI (zwI (zwI (zwI (zwI (zwI h a 5 sp) a 3 s.2.1) a 6 bl) a 0 s.1) a 1 s.2.2.2.2.1) a 2 s.2.2.2.1) a 7 s.2.2.1) a 4 s.2.2.2.2.2
theorem cN_0 {h : zH} {a : Nat} {a0 k c e f g v sp bl : Int32} : zwI (cN h a (a0, k, c, e, f, g) sp bl) a 0 v = cN h a (v, k, c, e, f, g) sp bl := by
  refine zH_ext rfl rfl (fun _ => rfl) (fun x y => ?_) (fun _ _ => rfl)
  simp only [cN, zi_wI]
  by_cases h1 : x = a ∧ y = 0
  · obtain ⟨rfl, rfl⟩ := h1
    simp
  · simp only [h1, if_false]
theorem cN_1 {h : zH} {a : Nat} {a0 k c e f g v sp bl : Int32} : zwI (cN h a (a0, k, c, e, f, g) sp bl) a 1 v = cN h a (a0, k, c, e, v, g) sp bl := by
  refine zH_ext rfl rfl (fun _ => rfl) (fun x y => ?_) (fun _ _ => rfl)
  simp only [cN, zi_wI]
  by_cases h1 : x = a ∧ y = 1
  · obtain ⟨rfl, rfl⟩ := h1
    simp
  · simp only [h1, if_false]
theorem cN_2 {h : zH} {a : Nat} {a0 k c e f g v sp bl : Int32} : zwI (cN h a (a0, k, c, e, f, g) sp bl) a 2 v = cN h a (a0, k, c, v, f, g) sp bl := by
  refine zH_ext rfl rfl (fun _ => rfl) (fun x y => ?_) (fun _ _ => rfl)
  simp only [cN, zi_wI]
  by_cases h1 : x = a ∧ y = 2
  · obtain ⟨rfl, rfl⟩ := h1
    simp
  · simp only [h1, if_false]
theorem cN_3 {h : zH} {a : Nat} {a0 k c e f g v sp bl : Int32} : zwI (cN h a (a0, k, c, e, f, g) sp bl) a 3 v = cN h a (a0, v, c, e, f, g) sp bl := by
  refine zH_ext rfl rfl (fun _ => rfl) (fun x y => ?_) (fun _ _ => rfl)
  simp only [cN, zi_wI]
  by_cases h1 : x = a ∧ y = 3
  · obtain ⟨rfl, rfl⟩ := h1
    simp
  · simp only [h1, if_false]
theorem cN_4 {h : zH} {a : Nat} {a0 k c e f g v sp bl : Int32} : zwI (cN h a (a0, k, c, e, f, g) sp bl) a 4 v = cN h a (a0, k, c, e, f, v) sp bl := by
  refine zH_ext rfl rfl (fun _ => rfl) (fun x y => ?_) (fun _ _ => rfl)
  simp only [cN, zi_wI]
  by_cases h1 : x = a ∧ y = 4
  · obtain ⟨rfl, rfl⟩ := h1
    simp
  · simp only [h1, if_false]
theorem cN_7 {h : zH} {a : Nat} {a0 k c e f g v sp bl : Int32} : zwI (cN h a (a0, k, c, e, f, g) sp bl) a 7 v = cN h a (a0, k, v, e, f, g) sp bl := by
  refine zH_ext rfl rfl (fun _ => rfl) (fun x y => ?_) (fun _ _ => rfl)
  simp only [cN, zi_wI]
  by_cases h1 : x = a ∧ y = 7
  · obtain ⟨rfl, rfl⟩ := h1
    simp
  · simp only [h1, if_false]
theorem zi_cN5 {h : zH} {a : Nat} {s : zNt} {sp bl : Int32} : zi (cN h a s sp bl) a 5 = sp := by simp [cN, zi_wI]
theorem zi_cN3 {h : zH} {a : Nat} {s : zNt} {sp bl : Int32} : zi (cN h a s sp bl) a 3 = s.2.1 := by simp [cN, zi_wI]
theorem zi_cN6 {h : zH} {a : Nat} {s : zNt} {sp bl : Int32} : zi (cN h a s sp bl) a 6 = bl := by simp [cN, zi_wI]
theorem zi_cN0 {h : zH} {a : Nat} {s : zNt} {sp bl : Int32} : zi (cN h a s sp bl) a 0 = s.1 := by simp [cN, zi_wI]
theorem zi_cN1 {h : zH} {a : Nat} {s : zNt} {sp bl : Int32} : zi (cN h a s sp bl) a 1 = s.2.2.2.2.1 := by simp [cN, zi_wI]
theorem zi_cN2 {h : zH} {a : Nat} {s : zNt} {sp bl : Int32} : zi (cN h a s sp bl) a 2 = s.2.2.2.1 := by simp [cN, zi_wI]
theorem zi_cN7 {h : zH} {a : Nat} {s : zNt} {sp bl : Int32} : zi (cN h a s sp bl) a 7 = s.2.2.1 := by simp [cN, zi_wI]
theorem zi_cN4 {h : zH} {a : Nat} {s : zNt} {sp bl : Int32} : zi (cN h a s sp bl) a 4 = s.2.2.2.2.2 := by simp [cN, zi_wI]
theorem zi_cN {h : zH} {a : Nat} {s : zNt} {sp bl : Int32} {x y : Nat} (hx : x ≠ a) : zi (cN h a s sp bl) x y = zi h x y := by
  simp [cN, zi_wI, hx]
theorem zk_cN {h : zH} {a : Nat} {s : zNt} {sp bl : Int32} {x : Nat} : zk (cN h a s sp bl) x = zk h x := rfl
theorem zr_cN {h : zH} {a : Nat} {s : zNt} {sp bl : Int32} {x j : Nat} : zr (cN h a s sp bl) x j = zr h x j := rfl
theorem zn_cN {h : zH} {a : Nat} {s : zNt} {sp bl : Int32} : zn (cN h a s sp bl) = zn h := rfl
theorem zu_cN {h : zH} {a : Nat} {s : zNt} {sp bl : Int32} : zu (cN h a s sp bl) = zu h := rfl
theorem St_cN {h : zH} {a : Nat} {s : zNt} {sp bl : Int32} : St (cN h a s sp bl) = St h := rfl
theorem cN_5 {h : zH} {a : Nat} {s : zNt} {v sp bl : Int32} : zwI (cN h a s sp bl) a 5 v = cN h a s v bl := by
  refine zH_ext rfl rfl (fun _ => rfl) (fun x y => ?_) (fun _ _ => rfl)
  simp only [cN, zi_wI]
  by_cases h1 : x = a ∧ y = 5
  · obtain ⟨rfl, rfl⟩ := h1
    simp
  · simp only [h1, if_false]
theorem cN_6 {h : zH} {a : Nat} {s : zNt} {v sp bl : Int32} : zwI (cN h a s sp bl) a 6 v = cN h a s sp v := by
  refine zH_ext rfl rfl (fun _ => rfl) (fun x y => ?_) (fun _ _ => rfl)
  simp only [cN, zi_wI]
  by_cases h1 : x = a ∧ y = 6
  · obtain ⟨rfl, rfl⟩ := h1
    simp
  · simp only [h1, if_false]
theorem cN_twice {h : zH} {a : Nat} {s s' : zNt} {sp bl sp' bl' : Int32} : cN (cN h a s sp bl) a s' sp' bl' = cN h a s' sp' bl' := by
  obtain ⟨a0, k, c, e, f, g⟩ := s
  obtain ⟨a0', k', c', e', f', g'⟩ := s'
  show zwI (zwI (zwI (zwI (zwI (zwI (zwI (zwI (cN h a (a0, k, c, e, f, g) sp bl) a 5 sp') a 3 k') a 6 bl') a 0 a0') a 1 f') a 2 e') a 7 c') a 4 g' = _
  rw [cN_5, cN_3, cN_6, cN_0, cN_1, cN_2, cN_7, cN_4]
theorem Pres.cN {h h' : zH} (p : Pres h h') {a : Nat} {s : zNt} {sp bl : Int32} (ha : 10 ≤ a ∧ a ≤ 28) : Pres h (cN h' a s sp bl) := by
  have hz : ∀ j, zscr a j = true := fun j => by simp [zscr, ha]
  exact (((((((p.w (hz _)).w (hz _)).w (hz _)).w (hz _)).w (hz _)).w (hz _)).w (hz _)).w (hz _)
