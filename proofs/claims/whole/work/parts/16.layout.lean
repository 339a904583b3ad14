/-! where the objects lie (written by wip/whole/gen/layout.py) -/
def kd0 (a : Nat) : Nat × Nat := match a with
  | 1 => (10, 0)
  | 2 => (1, 0)
  | 3 => (13, 8)
  | 4 => (6, 0)
  | 5 => (12, 8)
  | 6 => (12, 8)
  | 7 => (12, 8)
  | 8 => (15, 4)
  | 9 => (9, 0)
  | 10 => (12, 20)
  | 11 => (4, 0)
  | 12 => (3, 0)
  | 13 => (12, 5)
  | 14 => (12, 5)
  | 15 => (14, 6)
  | 16 => (4, 0)
  | 17 => (4, 0)
  | 18 => (4, 0)
  | 19 => (4, 0)
  | 20 => (4, 0)
  | 21 => (4, 0)
  | 22 => (2, 0)
  | 23 => (14, 5)
  | 24 => (4, 0)
  | 25 => (4, 0)
  | 26 => (4, 0)
  | 27 => (4, 0)
  | 28 => (4, 0)
  | 29 => (7, 0)
  | 30 => (12, 60)
  | 31 => (7, 0)
  | 32 => (12, 60)
  | 33 => (7, 0)
  | 34 => (12, 60)
  | 35 => (7, 0)
  | 36 => (12, 60)
  | 37 => (11, 0)
  | 38 => (12, 8)
  | 39 => (12, 8)
  | 40 => (12, 8)
  | 41 => (12, 8)
  | 42 => (12, 8)
  | 43 => (12, 8)
  | 44 => (12, 8)
  | 45 => (12, 8)
  | 46 => (12, 8)
  | 47 => (12, 8)
  | 48 => (12, 5)
  | 49 => (12, 5)
  | 50 => (12, 6)
  | 51 => (12, 6)
  | 52 => (12, 6)
  | 53 => (12, 6)
  | 54 => (12, 6)
  | 55 => (12, 6)
  | 56 => (12, 6)
  | 57 => (12, 8)
  | 58 => (12, 8)
  | 59 => (12, 8)
  | 60 => (12, 4)
  | 61 => (12, 4)
  | 62 => (12, 240)
  | 63 => (12, 60)
  | _ => (99, 0)
def mr0 (a j : Nat) : Option Nat := match a, j with
  | 1, 0 => some 2
  | 1, 3 => some 4
  | 1, 4 => some 8
  | 1, 5 => some 9
  | 1, 7 => some 10
  | 1, 9 => some 11
  | 1, 10 => some 12
  | 1, 11 => some 22
  | 2, 2 => some 3
  | 4, 1 => some 5
  | 4, 2 => some 6
  | 4, 3 => some 7
  | 8, 0 => some 29
  | 8, 1 => some 31
  | 8, 2 => some 33
  | 8, 3 => some 35
  | 12, 1 => some 13
  | 12, 2 => some 14
  | 12, 3 => some 15
  | 15, 0 => some 16
  | 15, 1 => some 17
  | 15, 2 => some 18
  | 15, 3 => some 19
  | 15, 4 => some 20
  | 15, 5 => some 21
  | 22, 0 => some 23
  | 23, 0 => some 24
  | 23, 1 => some 25
  | 23, 2 => some 26
  | 23, 3 => some 27
  | 23, 4 => some 28
  | 29, 2 => some 30
  | 31, 2 => some 32
  | 33, 2 => some 34
  | 35, 2 => some 36
  | 37, 3 => some 38
  | 37, 4 => some 39
  | 37, 5 => some 40
  | 37, 6 => some 41
  | 37, 7 => some 42
  | 37, 13 => some 43
  | 37, 14 => some 44
  | 37, 15 => some 45
  | 37, 16 => some 46
  | 37, 17 => some 47
  | 37, 24 => some 48
  | 37, 25 => some 49
  | 37, 27 => some 50
  | 37, 28 => some 51
  | 37, 29 => some 52
  | 37, 30 => some 53
  | 37, 31 => some 54
  | 37, 32 => some 55
  | 37, 33 => some 56
  | 37, 35 => some 57
  | 37, 36 => some 58
  | 37, 37 => some 59
  | 37, 38 => some 60
  | 37, 39 => some 61
  | 37, 40 => some 62
  | 37, 41 => some 63
  | _, _ => none
def St (h : zH) : Prop := (∀ a, 1 ≤ a → a < 64 → zk h a = kd0 a) ∧ ∀ a j r, mr0 a j = some r → zr h a j = some r
theorem St_wI {h : zH} {a j : Nat} {v : Int32} : St (zwI h a j v) = St h := rfl
theorem St_wC {h : zH} {a sp b dp n : Nat} : St (zwC h a sp b dp n) = St h := rfl
theorem K1 {h : zH} (S : St h) : zk h 1 = (10, 0) := S.1 1 (by decide) (by decide)
theorem K2 {h : zH} (S : St h) : zk h 2 = (1, 0) := S.1 2 (by decide) (by decide)
theorem K3 {h : zH} (S : St h) : zk h 3 = (13, 8) := S.1 3 (by decide) (by decide)
theorem K4 {h : zH} (S : St h) : zk h 4 = (6, 0) := S.1 4 (by decide) (by decide)
theorem K5 {h : zH} (S : St h) : zk h 5 = (12, 8) := S.1 5 (by decide) (by decide)
theorem K6 {h : zH} (S : St h) : zk h 6 = (12, 8) := S.1 6 (by decide) (by decide)
theorem K7 {h : zH} (S : St h) : zk h 7 = (12, 8) := S.1 7 (by decide) (by decide)
theorem K8 {h : zH} (S : St h) : zk h 8 = (15, 4) := S.1 8 (by decide) (by decide)
theorem K9 {h : zH} (S : St h) : zk h 9 = (9, 0) := S.1 9 (by decide) (by decide)
theorem K10 {h : zH} (S : St h) : zk h 10 = (12, 20) := S.1 10 (by decide) (by decide)
theorem K11 {h : zH} (S : St h) : zk h 11 = (4, 0) := S.1 11 (by decide) (by decide)
theorem K12 {h : zH} (S : St h) : zk h 12 = (3, 0) := S.1 12 (by decide) (by decide)
theorem K13 {h : zH} (S : St h) : zk h 13 = (12, 5) := S.1 13 (by decide) (by decide)
theorem K14 {h : zH} (S : St h) : zk h 14 = (12, 5) := S.1 14 (by decide) (by decide)
theorem K15 {h : zH} (S : St h) : zk h 15 = (14, 6) := S.1 15 (by decide) (by decide)
theorem K16 {h : zH} (S : St h) : zk h 16 = (4, 0) := S.1 16 (by decide) (by decide)
theorem K17 {h : zH} (S : St h) : zk h 17 = (4, 0) := S.1 17 (by decide) (by decide)
theorem K18 {h : zH} (S : St h) : zk h 18 = (4, 0) := S.1 18 (by decide) (by decide)
theorem K19 {h : zH} (S : St h) : zk h 19 = (4, 0) := S.1 19 (by decide) (by decide)
theorem K20 {h : zH} (S : St h) : zk h 20 = (4, 0) := S.1 20 (by decide) (by decide)
theorem K21 {h : zH} (S : St h) : zk h 21 = (4, 0) := S.1 21 (by decide) (by decide)
theorem K22 {h : zH} (S : St h) : zk h 22 = (2, 0) := S.1 22 (by decide) (by decide)
theorem K23 {h : zH} (S : St h) : zk h 23 = (14, 5) := S.1 23 (by decide) (by decide)
theorem K24 {h : zH} (S : St h) : zk h 24 = (4, 0) := S.1 24 (by decide) (by decide)
theorem K25 {h : zH} (S : St h) : zk h 25 = (4, 0) := S.1 25 (by decide) (by decide)
theorem K26 {h : zH} (S : St h) : zk h 26 = (4, 0) := S.1 26 (by decide) (by decide)
theorem K27 {h : zH} (S : St h) : zk h 27 = (4, 0) := S.1 27 (by decide) (by decide)
theorem K28 {h : zH} (S : St h) : zk h 28 = (4, 0) := S.1 28 (by decide) (by decide)
theorem K29 {h : zH} (S : St h) : zk h 29 = (7, 0) := S.1 29 (by decide) (by decide)
theorem K30 {h : zH} (S : St h) : zk h 30 = (12, 60) := S.1 30 (by decide) (by decide)
theorem K31 {h : zH} (S : St h) : zk h 31 = (7, 0) := S.1 31 (by decide) (by decide)
theorem K32 {h : zH} (S : St h) : zk h 32 = (12, 60) := S.1 32 (by decide) (by decide)
theorem K33 {h : zH} (S : St h) : zk h 33 = (7, 0) := S.1 33 (by decide) (by decide)
theorem K34 {h : zH} (S : St h) : zk h 34 = (12, 60) := S.1 34 (by decide) (by decide)
theorem K35 {h : zH} (S : St h) : zk h 35 = (7, 0) := S.1 35 (by decide) (by decide)
theorem K36 {h : zH} (S : St h) : zk h 36 = (12, 60) := S.1 36 (by decide) (by decide)
theorem K37 {h : zH} (S : St h) : zk h 37 = (11, 0) := S.1 37 (by decide) (by decide)
theorem K38 {h : zH} (S : St h) : zk h 38 = (12, 8) := S.1 38 (by decide) (by decide)
theorem K39 {h : zH} (S : St h) : zk h 39 = (12, 8) := S.1 39 (by decide) (by decide)
theorem K40 {h : zH} (S : St h) : zk h 40 = (12, 8) := S.1 40 (by decide) (by decide)
theorem K41 {h : zH} (S : St h) : zk h 41 = (12, 8) := S.1 41 (by decide) (by decide)
theorem K42 {h : zH} (S : St h) : zk h 42 = (12, 8) := S.1 42 (by decide) (by decide)
theorem K43 {h : zH} (S : St h) : zk h 43 = (12, 8) := S.1 43 (by decide) (by decide)
theorem K44 {h : zH} (S : St h) : zk h 44 = (12, 8) := S.1 44 (by decide) (by decide)
theorem K45 {h : zH} (S : St h) : zk h 45 = (12, 8) := S.1 45 (by decide) (by decide)
theorem K46 {h : zH} (S : St h) : zk h 46 = (12, 8) := S.1 46 (by decide) (by decide)
theorem K47 {h : zH} (S : St h) : zk h 47 = (12, 8) := S.1 47 (by decide) (by decide)
theorem K48 {h : zH} (S : St h) : zk h 48 = (12, 5) := S.1 48 (by decide) (by decide)
theorem K49 {h : zH} (S : St h) : zk h 49 = (12, 5) := S.1 49 (by decide) (by decide)
theorem K50 {h : zH} (S : St h) : zk h 50 = (12, 6) := S.1 50 (by decide) (by decide)
theorem K51 {h : zH} (S : St h) : zk h 51 = (12, 6) := S.1 51 (by decide) (by decide)
theorem K52 {h : zH} (S : St h) : zk h 52 = (12, 6) := S.1 52 (by decide) (by decide)
theorem K53 {h : zH} (S : St h) : zk h 53 = (12, 6) := S.1 53 (by decide) (by decide)
theorem K54 {h : zH} (S : St h) : zk h 54 = (12, 6) := S.1 54 (by decide) (by decide)
theorem K55 {h : zH} (S : St h) : zk h 55 = (12, 6) := S.1 55 (by decide) (by decide)
theorem K56 {h : zH} (S : St h) : zk h 56 = (12, 6) := S.1 56 (by decide) (by decide)
theorem K57 {h : zH} (S : St h) : zk h 57 = (12, 8) := S.1 57 (by decide) (by decide)
theorem K58 {h : zH} (S : St h) : zk h 58 = (12, 8) := S.1 58 (by decide) (by decide)
theorem K59 {h : zH} (S : St h) : zk h 59 = (12, 8) := S.1 59 (by decide) (by decide)
theorem K60 {h : zH} (S : St h) : zk h 60 = (12, 4) := S.1 60 (by decide) (by decide)
theorem K61 {h : zH} (S : St h) : zk h 61 = (12, 4) := S.1 61 (by decide) (by decide)
theorem K62 {h : zH} (S : St h) : zk h 62 = (12, 240) := S.1 62 (by decide) (by decide)
theorem K63 {h : zH} (S : St h) : zk h 63 = (12, 60) := S.1 63 (by decide) (by decide)
theorem R1_0 {h : zH} (S : St h) : zr h 1 0 = some 2 := S.2 1 0 2 rfl
theorem R1_3 {h : zH} (S : St h) : zr h 1 3 = some 4 := S.2 1 3 4 rfl
theorem R1_4 {h : zH} (S : St h) : zr h 1 4 = some 8 := S.2 1 4 8 rfl
theorem R1_5 {h : zH} (S : St h) : zr h 1 5 = some 9 := S.2 1 5 9 rfl
theorem R1_7 {h : zH} (S : St h) : zr h 1 7 = some 10 := S.2 1 7 10 rfl
theorem R1_9 {h : zH} (S : St h) : zr h 1 9 = some 11 := S.2 1 9 11 rfl
theorem R1_10 {h : zH} (S : St h) : zr h 1 10 = some 12 := S.2 1 10 12 rfl
theorem R1_11 {h : zH} (S : St h) : zr h 1 11 = some 22 := S.2 1 11 22 rfl
theorem R2_2 {h : zH} (S : St h) : zr h 2 2 = some 3 := S.2 2 2 3 rfl
theorem R4_1 {h : zH} (S : St h) : zr h 4 1 = some 5 := S.2 4 1 5 rfl
theorem R4_2 {h : zH} (S : St h) : zr h 4 2 = some 6 := S.2 4 2 6 rfl
theorem R4_3 {h : zH} (S : St h) : zr h 4 3 = some 7 := S.2 4 3 7 rfl
theorem R8_0 {h : zH} (S : St h) : zr h 8 0 = some 29 := S.2 8 0 29 rfl
theorem R8_1 {h : zH} (S : St h) : zr h 8 1 = some 31 := S.2 8 1 31 rfl
theorem R8_2 {h : zH} (S : St h) : zr h 8 2 = some 33 := S.2 8 2 33 rfl
theorem R8_3 {h : zH} (S : St h) : zr h 8 3 = some 35 := S.2 8 3 35 rfl
theorem R12_1 {h : zH} (S : St h) : zr h 12 1 = some 13 := S.2 12 1 13 rfl
theorem R12_2 {h : zH} (S : St h) : zr h 12 2 = some 14 := S.2 12 2 14 rfl
theorem R12_3 {h : zH} (S : St h) : zr h 12 3 = some 15 := S.2 12 3 15 rfl
theorem R15_0 {h : zH} (S : St h) : zr h 15 0 = some 16 := S.2 15 0 16 rfl
theorem R15_1 {h : zH} (S : St h) : zr h 15 1 = some 17 := S.2 15 1 17 rfl
theorem R15_2 {h : zH} (S : St h) : zr h 15 2 = some 18 := S.2 15 2 18 rfl
theorem R15_3 {h : zH} (S : St h) : zr h 15 3 = some 19 := S.2 15 3 19 rfl
theorem R15_4 {h : zH} (S : St h) : zr h 15 4 = some 20 := S.2 15 4 20 rfl
theorem R15_5 {h : zH} (S : St h) : zr h 15 5 = some 21 := S.2 15 5 21 rfl
theorem R22_0 {h : zH} (S : St h) : zr h 22 0 = some 23 := S.2 22 0 23 rfl
theorem R23_0 {h : zH} (S : St h) : zr h 23 0 = some 24 := S.2 23 0 24 rfl
theorem R23_1 {h : zH} (S : St h) : zr h 23 1 = some 25 := S.2 23 1 25 rfl
theorem R23_2 {h : zH} (S : St h) : zr h 23 2 = some 26 := S.2 23 2 26 rfl
theorem R23_3 {h : zH} (S : St h) : zr h 23 3 = some 27 := S.2 23 3 27 rfl
theorem R23_4 {h : zH} (S : St h) : zr h 23 4 = some 28 := S.2 23 4 28 rfl
theorem R29_2 {h : zH} (S : St h) : zr h 29 2 = some 30 := S.2 29 2 30 rfl
theorem R31_2 {h : zH} (S : St h) : zr h 31 2 = some 32 := S.2 31 2 32 rfl
theorem R33_2 {h : zH} (S : St h) : zr h 33 2 = some 34 := S.2 33 2 34 rfl
theorem R35_2 {h : zH} (S : St h) : zr h 35 2 = some 36 := S.2 35 2 36 rfl
theorem R37_3 {h : zH} (S : St h) : zr h 37 3 = some 38 := S.2 37 3 38 rfl
theorem R37_4 {h : zH} (S : St h) : zr h 37 4 = some 39 := S.2 37 4 39 rfl
theorem R37_5 {h : zH} (S : St h) : zr h 37 5 = some 40 := S.2 37 5 40 rfl
theorem R37_6 {h : zH} (S : St h) : zr h 37 6 = some 41 := S.2 37 6 41 rfl
theorem R37_7 {h : zH} (S : St h) : zr h 37 7 = some 42 := S.2 37 7 42 rfl
theorem R37_13 {h : zH} (S : St h) : zr h 37 13 = some 43 := S.2 37 13 43 rfl
theorem R37_14 {h : zH} (S : St h) : zr h 37 14 = some 44 := S.2 37 14 44 rfl
theorem R37_15 {h : zH} (S : St h) : zr h 37 15 = some 45 := S.2 37 15 45 rfl
theorem R37_16 {h : zH} (S : St h) : zr h 37 16 = some 46 := S.2 37 16 46 rfl
theorem R37_17 {h : zH} (S : St h) : zr h 37 17 = some 47 := S.2 37 17 47 rfl
theorem R37_24 {h : zH} (S : St h) : zr h 37 24 = some 48 := S.2 37 24 48 rfl
theorem R37_25 {h : zH} (S : St h) : zr h 37 25 = some 49 := S.2 37 25 49 rfl
theorem R37_27 {h : zH} (S : St h) : zr h 37 27 = some 50 := S.2 37 27 50 rfl
theorem R37_28 {h : zH} (S : St h) : zr h 37 28 = some 51 := S.2 37 28 51 rfl
theorem R37_29 {h : zH} (S : St h) : zr h 37 29 = some 52 := S.2 37 29 52 rfl
theorem R37_30 {h : zH} (S : St h) : zr h 37 30 = some 53 := S.2 37 30 53 rfl
theorem R37_31 {h : zH} (S : St h) : zr h 37 31 = some 54 := S.2 37 31 54 rfl
theorem R37_32 {h : zH} (S : St h) : zr h 37 32 = some 55 := S.2 37 32 55 rfl
theorem R37_33 {h : zH} (S : St h) : zr h 37 33 = some 56 := S.2 37 33 56 rfl
theorem R37_35 {h : zH} (S : St h) : zr h 37 35 = some 57 := S.2 37 35 57 rfl
theorem R37_36 {h : zH} (S : St h) : zr h 37 36 = some 58 := S.2 37 36 58 rfl
theorem R37_37 {h : zH} (S : St h) : zr h 37 37 = some 59 := S.2 37 37 59 rfl
theorem R37_38 {h : zH} (S : St h) : zr h 37 38 = some 60 := S.2 37 38 60 rfl
theorem R37_39 {h : zH} (S : St h) : zr h 37 39 = some 61 := S.2 37 39 61 rfl
theorem R37_40 {h : zH} (S : St h) : zr h 37 40 = some 62 := S.2 37 40 62 rfl
theorem R37_41 {h : zH} (S : St h) : zr h 37 41 = some 63 := S.2 37 41 63 rfl
/-! two heaps that differ in scratch cells alone -/
def zscr (a j : Nat) : Bool := decide ((a = 37 ∧ ((10 ≤ j ∧ j ≤ 12) ∨ (18 ≤ j ∧ j ≤ 23) ∨ j = 26)) ∨ (43 ≤ a ∧ a ≤ 56) ∨ a = 63 ∨ (10 ≤ a ∧ a ≤ 28) ∨ (a = 1 ∧ j = 8))
def Pres (h h' : zH) : Prop := zn h' = zn h ∧ zu h' = zu h ∧ (∀ a, zk h' a = zk h a) ∧ (∀ a j, zr h' a j = zr h a j) ∧ ∀ a j, zscr a j = false → zi h' a j = zi h a j
theorem Pres.rfl {h : zH} : Pres h h := ⟨Eq.refl _, Eq.refl _, fun _ => Eq.refl _, fun _ _ => Eq.refl _, fun _ _ _ => Eq.refl _⟩
theorem Pres.trans {a b c : zH} (h1 : Pres a b) (h2 : Pres b c) : Pres a c :=
  ⟨h2.1.trans h1.1, h2.2.1.trans h1.2.1, fun x => (h2.2.2.1 x).trans (h1.2.2.1 x), fun x j => (h2.2.2.2.1 x j).trans (h1.2.2.2.1 x j), fun x j hx => (h2.2.2.2.2 x j hx).trans (h1.2.2.2.2 x j hx)⟩
theorem Pres.w {h h' : zH} (p : Pres h h') {a j : Nat} {v : Int32} (hs : zscr a j = true) : Pres h (zwI h' a j v) :=
  ⟨p.1, p.2.1, p.2.2.1, p.2.2.2.1, fun x y hx => by
    rw [zi_wI, if_neg]
    · exact p.2.2.2.2 x y hx
    · rintro ⟨rfl, rfl⟩
      rw [hs] at hx
      cases hx⟩
theorem Pres.both {h h' : zH} (p : Pres h h') {a j : Nat} {v : Int32} : Pres (zwI h a j v) (zwI h' a j v) :=
  ⟨p.1, p.2.1, p.2.2.1, p.2.2.2.1, fun x y hx => by
    rw [zi_wI, zi_wI]
    split
    · rfl
    · exact p.2.2.2.2 x y hx⟩
theorem Pres.St {h h' : zH} (p : Pres h h') (S : St h) : St h' := ⟨fun a h1 h2 => (p.2.2.1 a).trans (S.1 a h1 h2), fun a j r hr => (p.2.2.2.1 a j).trans (S.2 a j r hr)⟩
theorem zH_ext {h h' : zH} (h1 : zn h = zn h') (h2 : zu h = zu h') (h3 : ∀ a, zk h a = zk h' a) (h4 : ∀ a j, zi h a j = zi h' a j) (h5 : ∀ a j, zr h a j = zr h' a j) : h = h' := by
  obtain ⟨a, b, c, d, e⟩ := h
  obtain ⟨a', b', c', d', e'⟩ := h'
  have e1 : a = a' := h1
  have e2 : b = b' := h2
  have e3 : c = c' := funext h3
  have e4 : d = d' := funext fun x => funext (h4 x)
  have e5 : e = e' := funext fun x => funext (h5 x)
  subst e1; subst e2; subst e3; subst e4; subst e5
  rfl
theorem zwI_same {h : zH} {a j : Nat} {v : Int32} (hv : zi h a j = v) : zwI h a j v = h := by
  refine zH_ext rfl rfl (fun _ => rfl) (fun x y => ?_) (fun _ _ => rfl)
  rw [zi_wI]
  split
  · rename_i hq
    rw [hq.1, hq.2, hv]
  · rfl
theorem zwI_twice {h : zH} {a j : Nat} {v w : Int32} : zwI (zwI h a j v) a j w = zwI h a j w := by
  refine zH_ext rfl rfl (fun _ => rfl) (fun x y => ?_) (fun _ _ => rfl)
  rw [zi_wI, zi_wI, zi_wI]
  split
  · rfl
  · rfl
theorem zwI_comm {h : zH} {a j b k : Nat} {v w : Int32} (hne : ¬ (a = b ∧ j = k)) : zwI (zwI h a j v) b k w = zwI (zwI h b k w) a j v := by
  refine zH_ext rfl rfl (fun _ => rfl) (fun x y => ?_) (fun _ _ => rfl)
  rw [zi_wI, zi_wI, zi_wI, zi_wI]
  by_cases h1 : x = b ∧ y = k <;> by_cases h2 : x = a ∧ y = j
  · exact absurd ⟨h2.1.symm.trans h1.1, h2.2.symm.trans h1.2⟩ hne
  · rw [if_pos h1, if_neg h2, if_pos h1]
  · rw [if_neg h1, if_pos h2, if_pos h2]
  · rw [if_neg h1, if_neg h2, if_neg h2, if_neg h1]
/-! numbers -/
theorem zix_nI {t n : Nat} (h : t < n) (hn : n ≤ 2 ^ 30) : zix (nI t) n = some t := by
  unfold zix
  have h1 : ¬ (nI t < 0) := nI_pos (by omega)
  have h2 : (nI t).toNatClampNeg = t := nI_clamp (by omega)
  rw [h2, if_neg]
  rintro (q | q)
  · exact h1 q
  · omega
theorem nI_eqz {a : Nat} (h : a < 2 ^ 31) : (nI a = 0) = (a = 0) := by
  rw [← nI_0]
  exact propext (nI_eq h (by decide))
theorem nI_ltI' {a b : Nat} (ha : a < 2 ^ 31) (hb : b < 2 ^ 31) : (nI a < nI b) = (a < b) := propext (nI_ltI ha hb)
theorem nI_eqI' {a b : Nat} (ha : a < 2 ^ 31) (hb : b < 2 ^ 31) : (nI a = nI b) = (a = b) := propext (nI_eq ha hb)

