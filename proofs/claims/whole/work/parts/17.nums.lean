/-! numbers: longs out of ints, bits -/
theorem i64_le (x y : Int32) : (x.toInt64 ≤ y.toInt64) = (x ≤ y) := by
  rw [Int64.le_iff_toInt_le, Int32.le_iff_toInt_le, Int32.toInt_toInt64, Int32.toInt_toInt64]
theorem i64_ra {x : Int32} {c : Int64} {c' : Int32} (hc : c = c'.toInt64) : (x.toInt64 ≤ c) = (x ≤ c') := by rw [hc, i64_le]
theorem i64_la {x : Int32} {c : Int64} {c' : Int32} (hc : c = c'.toInt64) : (c ≤ x.toInt64) = (c' ≤ x) := by rw [hc, i64_le]
theorem l64r_m1 {x : Int32} : (x.toInt64 ≤ ((-1) : Int64)) = (x ≤ (-1)) := i64_ra (by decide)
theorem l64l_m1 {x : Int32} : (((-1) : Int64) ≤ x.toInt64) = ((-1) ≤ x) := i64_la (by decide)
theorem l64r_0 {x : Int32} : (x.toInt64 ≤ (0 : Int64)) = (x ≤ 0) := i64_ra (by decide)
theorem l64l_0 {x : Int32} : ((0 : Int64) ≤ x.toInt64) = (0 ≤ x) := i64_la (by decide)
theorem l64r_1 {x : Int32} : (x.toInt64 ≤ (1 : Int64)) = (x ≤ 1) := i64_ra (by decide)
theorem l64l_1 {x : Int32} : ((1 : Int64) ≤ x.toInt64) = (1 ≤ x) := i64_la (by decide)
theorem l64r_2 {x : Int32} : (x.toInt64 ≤ (2 : Int64)) = (x ≤ 2) := i64_ra (by decide)
theorem l64l_2 {x : Int32} : ((2 : Int64) ≤ x.toInt64) = (2 ≤ x) := i64_la (by decide)
theorem l64r_3 {x : Int32} : (x.toInt64 ≤ (3 : Int64)) = (x ≤ 3) := i64_ra (by decide)
theorem l64l_3 {x : Int32} : ((3 : Int64) ≤ x.toInt64) = (3 ≤ x) := i64_la (by decide)
theorem l64r_4 {x : Int32} : (x.toInt64 ≤ (4 : Int64)) = (x ≤ 4) := i64_ra (by decide)
theorem l64l_4 {x : Int32} : ((4 : Int64) ≤ x.toInt64) = (4 ≤ x) := i64_la (by decide)
theorem l64r_5 {x : Int32} : (x.toInt64 ≤ (5 : Int64)) = (x ≤ 5) := i64_ra (by decide)
theorem l64l_5 {x : Int32} : ((5 : Int64) ≤ x.toInt64) = (5 ≤ x) := i64_la (by decide)
theorem l64r_6 {x : Int32} : (x.toInt64 ≤ (6 : Int64)) = (x ≤ 6) := i64_ra (by decide)
theorem l64l_6 {x : Int32} : ((6 : Int64) ≤ x.toInt64) = (6 ≤ x) := i64_la (by decide)
theorem l64r_7 {x : Int32} : (x.toInt64 ≤ (7 : Int64)) = (x ≤ 7) := i64_ra (by decide)
theorem l64l_7 {x : Int32} : ((7 : Int64) ≤ x.toInt64) = (7 ≤ x) := i64_la (by decide)
theorem l64r_8 {x : Int32} : (x.toInt64 ≤ (8 : Int64)) = (x ≤ 8) := i64_ra (by decide)
theorem l64l_8 {x : Int32} : ((8 : Int64) ≤ x.toInt64) = (8 ≤ x) := i64_la (by decide)
theorem l64r_9 {x : Int32} : (x.toInt64 ≤ (9 : Int64)) = (x ≤ 9) := i64_ra (by decide)
theorem l64l_9 {x : Int32} : ((9 : Int64) ≤ x.toInt64) = (9 ≤ x) := i64_la (by decide)
theorem l64r_60 {x : Int32} : (x.toInt64 ≤ (60 : Int64)) = (x ≤ 60) := i64_ra (by decide)
theorem l64l_60 {x : Int32} : ((60 : Int64) ≤ x.toInt64) = (60 ≤ x) := i64_la (by decide)
theorem i64_in {x : Int32} {n : Nat} (hn : n < 2 ^ 31) : (0 ≤ x.toInt64 ∧ x.toInt64 ≤ (nI n).toInt64 - 1) = (0 ≤ x.toInt ∧ x.toInt < n) := by
  have h1 : ((nI n).toInt64 - 1).toInt = (n : Int) - 1 := by
    have h2 : (1 : Int64) = (1 : Int32).toInt64 := by decide
    rw [h2, lg_i2l_sub, nI_toInt hn]
    rfl
  rw [Int64.le_iff_toInt_le, Int64.le_iff_toInt_le, h1, Int32.toInt_toInt64]
  have h3 : (0 : Int64).toInt = 0 := by decide
  rw [h3]
  apply propext
  constructor
  · rintro ⟨a, b⟩
    exact ⟨a, by omega⟩
  · rintro ⟨a, b⟩
    exact ⟨a, by omega⟩
/-- an int is below 0, or too large, or a number below N -/
theorem zrng (x : Int32) {N : Nat} (hN : N < 2 ^ 31) : (¬ (0 ≤ x.toInt ∧ x.toInt < N)) ∨ ∃ j, j < N ∧ x = nI j := by
  rcases pk_ix x hN with h | h | ⟨j, h1, h2⟩
  · refine Or.inl fun q => ?_
    have := Int32.lt_iff_toInt_lt.mp h
    have h0 : (0 : Int32).toInt = 0 := by decide
    rw [h0] at this
    omega
  · refine Or.inl fun q => ?_
    have := Int32.le_iff_toInt_le.mp h
    rw [nI_toInt hN] at this
    omega
  · exact Or.inr ⟨j, h1, h2⟩
theorem nI_rng {j N : Nat} (h : j < N) (hN : N < 2 ^ 31) : (0 ≤ (nI j).toInt ∧ (nI j).toInt < N) := by
  rw [nI_toInt (by omega)]
  omega
/-- a bit of a set -/
def zbit (s k : Int32) : Bool := (s >>> (k &&& 31)) &&& 1 == 1
theorem zand1 (x : Int32) : x &&& 1 = 0 ∨ x &&& 1 = 1 := by
  obtain ⟨j, h1, h2⟩ := pk_andE x (m := 1) 1 (by decide)
  rw [h2]
  rcases (show j = 0 ∨ j = 1 by omega) with rfl | rfl
  · exact Or.inl (by decide)
  · exact Or.inr (by decide)
theorem zbit_1 (s k : Int32) : ((s >>> (k &&& 31)) &&& 1 = 1) = (zbit s k = true) := by
  simp [zbit]
theorem zbit_0 (s k : Int32) : ((s >>> (k &&& 31)) &&& 1 = 0) = (zbit s k = false) := by
  apply propext
  unfold zbit
  rcases zand1 (s >>> (k &&& 31)) with h | h
  · rw [h]
    simp
  · rw [h]
    simp
