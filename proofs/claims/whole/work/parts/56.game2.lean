/-! game: the class's search -/
def gM (mv : Nat → Nat → Int32 → Nat) (te : Nat → Int32) (sp N m st : Nat) (kn : Int32) (x t : Nat) : Nat := max (gV mv te sp N m (mv t st kn) kn (x ||| 2 ^ t)) (gV mv te sp N m (mv t st kn) (kn ||| te t) (x ||| 2 ^ t))
theorem gV_succ {mv : Nat → Nat → Int32 → Nat} {te : Nat → Int32} {sp N m st : Nat} {kn : Int32} {x : Nat} (h : st < sp) : gV mv te sp N (m + 1) st kn x = gmn x (gM mv te sp N m st kn x) N sp := by
  rw [gV, if_neg (by omega)]
  rfl
theorem or_bit : ∀ kk, kk < 256 → ∀ c, c < 8 → kk.testBit c = true → kk ||| 2 ^ c = kk := by decide +kernel
def GI (h H : zH) (L : Nat) : Prop := Pres h H ∧ zi H 22 1 = nI L
theorem isN_self {H : zH} {a : Nat} {s : zNt} {sp bl : Int32} (I : isN H a s sp bl) : cN H a s sp bl = H := by
  obtain ⟨i1, i2, i3, i4, i5, i6, i7, i8⟩ := I
  unfold cN
  rw [zwI_same i1, zwI_same i2, zwI_same i3, zwI_same i4, zwI_same i5, zwI_same i6, zwI_same i7, zwI_same i8]
theorem K23x {H : zH} (S : St H) {i : Nat} (hi : i < 5) : zk H (24 + i) = (4, 0) ∧ zr H 23 i = some (24 + i) := by
  rcases (show i = 0 ∨ i = 1 ∨ i = 2 ∨ i = 3 ∨ i = 4 by omega) with rfl | rfl | rfl | rfl | rfl
  · exact ⟨K24 S, R23_0 S⟩
  · exact ⟨K25 S, R23_1 S⟩
  · exact ⟨K26 S, R23_2 S⟩
  · exact ⟨K27 S, R23_3 S⟩
  · exact ⟨K28 S, R23_4 S⟩
def LF (h : zH) (sp N L m k : Nat) : Prop := ∀ (D : Nat) (H : zH) (st x en kk : Nat) (e f : Int32), 2 * m + 6 ≤ D → GI h H L → isN H (24 + k) (nI st, nI kk, nI x, e, f, 0) (zi h 37 1) (zi h 37 9) → st < sp → x < 256 → kk < 256 → en ≤ 9 → ∃ H' v, zcall (zP zM) D 13 [.inr (.inr (some 22)), .inr (.inr (some 2)), .inl (nI k), .inl (nI x), .inl (nI en)] H = some (some (.inl (nI v)), H') ∧ GI h H' L ∧ v ≤ sp ∧ (en < gV (hmv h sp) (hte h) sp N m st (nI kk) x → v = gV (hmv h sp) (hte h) sp N m st (nI kk) x) ∧ (gV (hmv h sp) (hte h) sp N m st (nI kk) x ≤ en → v ≤ en) ∧ ∀ i, i ≤ k → ∀ y, zi H' (24 + i) y = zi H (24 + i) y
theorem c_mostFar {h : zH} (S : St h) {N sp L : Nat} (T : IvT h N) (s1 : zi h 37 1 = nI sp) (hs : sp ≤ 9) (hs1 : 1 ≤ sp) (hL : L ≤ 4) {m k : Nat} (hk : k < L) (ih : LF h sp N L m (k + 1)) : ∀ (D : Nat) (H : zH) (st x en kk t : Nat) (e f : Int32), 2 * m + 7 ≤ D → GI h H L → isN H (24 + k) (nI st, nI kk, nI x, e, f, 0) (zi h 37 1) (zi h 37 9) → st < sp → x < 256 → kk < 256 → en ≤ 9 → t < N → x.testBit t = false → ∃ H' u, zcall (zP zM) D 14 [.inr (.inr (some 22)), .inr (.inr (some 2)), .inl (nI k), .inl (nI x), .inl (nI t), .inl (nI en)] H = some (some (.inl (nI u)), H') ∧ GI h H' L ∧ u ≤ sp ∧ (gM (hmv h sp) (hte h) sp N m st (nI kk) x t < en → u = gM (hmv h sp) (hte h) sp N m st (nI kk) x t) ∧ (en ≤ gM (hmv h sp) (hte h) sp N m st (nI kk) x t → en ≤ u) ∧ ∀ i, i ≤ k → ∀ y, zi H' (24 + i) y = zi H (24 + i) y := by
  intro D H st x en kk t e f hD I Nt hst hx hkk hen ht hbt
  obtain ⟨d, rfl⟩ : ∃ d, D = d + 5 := ⟨D - 5, by omega⟩
  obtain ⟨P, iL⟩ := I
  have SH := P.St S
  have TH := P.IvT T
  have hN8 := T.1
  have t8 : t < 8 := by omega
  obtain ⟨ta, kd, x1, x2, x3, x4, x5, qa, qb, qc, qe, qa1, qb1, qc1, qe1, qa2, qb2, qc2, qe2⟩ := TH.2.2.2.2.2 t ht
  have pz : ∀ a, 38 ≤ a → a ≤ 42 → zi H a t = zi h a t := fun a h1 h2 => P.2.2.2.2 a t (zscr_no (by omega))
  rw [pz 39 (by omega) (by omega), pz 40 (by omega) (by omega), pz 41 (by omega) (by omega), pz 42 (by omega) (by omega)] at x5
  rw [pz 38 (by omega) (by omega)] at x4
  rw [pz 41 (by omega) (by omega)] at qc2
  rw [pz 42 (by omega) (by omega)] at qe2
  obtain ⟨ka, ra⟩ := K23x SH (show k + 1 < 5 by omega)
  obtain ⟨kb, rb⟩ := K23x SH (show k < 5 by omega)
  have tk := fun d => c_takeUp (d := d) ka kb (show 24 + (k + 1) ≠ 24 + k by omega) Nt (Or.inl rfl)
  obtain ⟨hd', e', f', c', hp, hp1, hp2⟩ := hP_mv (te := zi h 41 t) (kn := nI kk) (e := e) (f := f) s1 hs hs1 qe2 qe1 hst hx t8 hbt
  have he : zcall (zP zM) (d + 4) 22 [.inr (.inr (some (24 + (k + 1)))), .inr (.inr (some ta)), .inl 0] (cN H (24 + (k + 1)) (nI st, nI kk, nI x, e, f, 0) (zi h 37 1) (zi h 37 9)) = some (none, cN H (24 + (k + 1)) (nI (hmv h sp t st (nI kk)), nI kk, hd', e', f', c') (zi h 37 1) (zi h 37 9)) := by
    rw [c_hear (d := d) ka x5 (show ta ≠ 24 + (k + 1) by omega) (sp := zi h 37 1) (bl := zi h 37 9) (hk0 := 0), ← x4, ← hp]
    rfl
  have k0 : ¬ nI k < 0 := nI_pos (by omega)
  have kl : nI k < nI L := nI_lt hk (by omega)
  have Q2 : ∀ s sp bl, ∀ i, i ≤ k → ∀ y, zi (cN H (24 + (k + 1)) s sp bl) (24 + i) y = zi H (24 + i) y := fun s sp bl i hi y => zi_cN (by omega)
  have mle : hmv h sp t st (nI kk) ≤ sp := mvN_le
  rw [e_X2_mostFar]
  by_cases far : hmv h sp t st (nI kk) = sp
  · have c1 := hp1 far
    refine ⟨cN H (24 + (k + 1)) (nI (hmv h sp t st (nI kk)), nI kk, hd', e', f', c') (zi h 37 1) (zi h 37 9), sp, ?_, ⟨P.cN (by omega), by rw [zi_cN (by omega)]; exact iL⟩, Nat.le_refl sp, fun z => ?_, fun z => ?_, Q2 _ _ _⟩
    · simp +decide only [u_X2_mostFar_0, u_X2_mostFar_1, u_X2_mostFar_3, u_X2_mostFar_6, u_X2_mostFar_8, u_X2_mostFar_10, u_X2_mostFar_13, u_X2_mostFar_14, u_X2_mostFar_17, u_X2_mostFar_18, u_X2_mostFar_19, u_X2_mostFar_22, u_X2_mostFar_25, u_X2_mostFar_26, u_X2_mostFar_27, u_X2_mostFar_28, u_X2_mostFar_31, u_X2_mostFar_32, u_X2_mostFar_33, u_X2_mostFar_34, u_X2_mostFar_35, u_X2_mostFar_37, u_X2_mostFar_39, u_X2_mostFar_40, u_X2_mostFar_43, u_X2_mostFar_44, u_X2_mostFar_45, u_X2_mostFar_48, u_X2_mostFar_50, u_X2_mostFar_52, u_X2_mostFar_53, u_X2_mostFar_56, u_X2_mostFar_58, u_X2_mostFar_61, u_X2_mostFar_64, u_X2_mostFar_66, u_X2_mostFar_69, u_X2_mostFar_70, u_X2_mostFar_71, u_X2_mostFar_72, u_X2_mostFar_73, u_X2_mostFar_74, u_X2_mostFar_75, u_X2_mostFar_76, u_X2_mostFar_77, u_X2_mostFar_79, u_X2_mostFar_80, u_X2_mostFar_81, u_X2_mostFar_82, u_X2_mostFar_85, u_X2_mostFar_87, u_X2_mostFar_89, u_X2_mostFar_91, u_X2_mostFar_94, u_X2_mostFar_96, u_X2_mostFar_99, u_X2_mostFar_101, u_X2_mostFar_104, u_X2_mostFar_107, u_X2_mostFar_110, u_X2_mostFar_112, u_X2_mostFar_113, u_X2_mostFar_115, u_X2_mostFar_117, u_X2_mostFar_120, u_X2_mostFar_122, u_X2_mostFar_123, u_X2_mostFar_124, u_X2_mostFar_125, u_X2_mostFar_126, u_X2_mostFar_127, u_X2_mostFar_128, u_X2_mostFar_129, u_X2_mostFar_131, u_X2_mostFar_132, u_X2_mostFar_133, u_X2_mostFar_135, u_X2_mostFar_138, u_X2_mostFar_141, zcl_i, zcl_r, zcl_l, zcl_0, Option.bind_some, Option.bind_none, Option.toList_some, Option.toList_none, List.cons_append, List.nil_append, zk_wI, zk_wR, zk_wC, zr_wI, zr_wC, zi_wR, zn_wI, zn_wR, zn_wC, if_true, if_false, true_or, or_true, or_false, false_or, true_and, and_true, ↓reduceIte, reduceCtorEq, Nat.reduceEqDiff, Nat.reduceLT, Nat.reduceLeDiff, Nat.reduceAdd, Nat.reduceSub, Nat.reduceMul, Int32.reduceLT, Int32.reduceLE, Int32.reduceAdd, Int32.reduceMul, Int32.reduceSub, Int32.reduceToNatClampNeg, and_self, or_self, and_false, false_and, not_true_eq_false, not_false_eq_true, K2 SH, c_taleAt SH TH.2.1 hN8 ht, x1, k0, K22 SH, iL, kl, R22_0 SH, K23 SH, nI_1, zix_nI (show k + 1 < 5 by omega) (by decide), zix_nI (show k < 5 by omega) (by decide), ra, rb, ka, tk, zk_cN, he, zi_cN4, c1, zi_cN0, far]
    · unfold gM
      rw [far, gV_sp, gV_sp]
      omega
    · unfold gM at z
      rw [far, gV_sp, gV_sp] at z
      omega
  · obtain ⟨c1, hd1⟩ := hp2 far
    subst c1
    subst hd1
    have x256 : x ||| 2 ^ t < 256 := Nat.or_lt_two_pow (n := 8) hx (Nat.pow_lt_pow_right (by decide) t8)
    have mlt : hmv h sp t st (nI kk) < sp := by omega
    obtain ⟨H3, v1, g1, ⟨g2, g3⟩, g4, g5, g6, g7⟩ := ih (d + 4) (cN H (24 + (k + 1)) (nI (hmv h sp t st (nI kk)), nI kk, nI (x ||| 2 ^ t), e', f', 0) (zi h 37 1) (zi h 37 9)) (hmv h sp t st (nI kk)) (x ||| 2 ^ t) 0 kk e' f' (by omega) ⟨P.cN (by omega), by rw [zi_cN (by omega)]; exact iL⟩ isN_cN mlt x256 hkk (by omega)
    have g1' : zcall (zP zM) (d + 4) 13 [.inr (.inr (some 22)), .inr (.inr (some 2)), .inl (nI (k + 1)), .inl (nI (x ||| 2 ^ t)), .inl 0] (cN H (24 + (k + 1)) (nI (hmv h sp t st (nI kk)), nI kk, nI (x ||| 2 ^ t), e', f', 0) (zi h 37 1) (zi h 37 9)) = some (some (.inl (nI v1)), H3) := g1
    have ev1 : v1 = gV (hmv h sp) (hte h) sp N m (hmv h sp t st (nI kk)) (nI kk) (x ||| 2 ^ t) := by
      by_cases z : 0 < gV (hmv h sp) (hte h) sp N m (hmv h sp t st (nI kk)) (nI kk) (x ||| 2 ^ t)
      · exact g5 z
      · have := g6 (by omega)
        omega
    have S3 := g2.St S
    have N3 : isN H3 (24 + (k + 1)) (nI (hmv h sp t st (nI kk)), nI kk, nI (x ||| 2 ^ t), e', f', 0) (zi h 37 1) (zi h 37 9) := isN_of isN_cN (g7 (k + 1) (Nat.le_refl _))
    have T3 : isT H3 ta kd (nI t) (zi h 39 t) (zi h 40 t) (zi h 41 t) (zi h 42 t) := by
      obtain ⟨y1, y2, y3, y4, y5, y6, y7⟩ := x5
      have q : ∀ i, zi H3 ta i = zi H ta i := fun i => by
        rw [g2.2.2.2.2 ta i (zscr_no (by omega)), P.2.2.2.2 ta i (zscr_no (by omega))]
      exact ⟨by rw [g2.2.2.1, ← P.2.2.1]; exact y1, y2, by rw [q]; exact y3, by rw [q]; exact y4, by rw [q]; exact y5, by rw [q]; exact y6, by rw [q]; exact y7⟩
    have Q3 : ∀ i, i ≤ k → ∀ y, zi H3 (24 + i) y = zi H (24 + i) y := fun i hi y => by rw [g7 i (by omega) y]; exact Q2 _ _ _ i hi y
    have lt1 : (nI v1 < nI en) = (v1 < en) := nI_ltI' (by omega) (by omega)
    by_cases c : v1 < en
    · have zb : zbit (nI kk) (zi h 41 t) = kk.testBit qc := by rw [qc2]; exact zb_tb kk hkk qc qc1
      have ete : nI kk ||| hte h t = nI (kk ||| 2 ^ qc) := by
        unfold hte
        rw [qc2, sh1 qc qc1, nI_or]
      have r3 : zi H3 (24 + (k + 1)) 3 = nI kk := N3.2.1
      have t3 : zi H3 ta 3 = zi h 41 t := T3.2.2.2.2.2.1
      obtain ⟨ka3, ra3⟩ := K23x S3 (show k + 1 < 5 by omega)
      by_cases hb : kk.testBit qc = true
      · have eM : gM (hmv h sp) (hte h) sp N m st (nI kk) x t = v1 := by
          unfold gM
          rw [ete, or_bit kk hkk qc qc1 hb, ← ev1]
          omega
        refine ⟨H3, v1, ?_, ⟨g2, g3⟩, g4, fun _ => eM.symm, fun z => by omega, Q3⟩
        have tk1 := T3.1
        rcases (show kd = 0 ∨ kd = 1 ∨ kd = 2 by have := T3.2.1; omega) with rfl | rfl | rfl <;>
        simp +decide only [u_X2_mostFar_0, u_X2_mostFar_1, u_X2_mostFar_3, u_X2_mostFar_6, u_X2_mostFar_8, u_X2_mostFar_10, u_X2_mostFar_13, u_X2_mostFar_14, u_X2_mostFar_17, u_X2_mostFar_18, u_X2_mostFar_19, u_X2_mostFar_22, u_X2_mostFar_25, u_X2_mostFar_26, u_X2_mostFar_27, u_X2_mostFar_28, u_X2_mostFar_31, u_X2_mostFar_32, u_X2_mostFar_33, u_X2_mostFar_34, u_X2_mostFar_35, u_X2_mostFar_37, u_X2_mostFar_39, u_X2_mostFar_40, u_X2_mostFar_43, u_X2_mostFar_44, u_X2_mostFar_45, u_X2_mostFar_48, u_X2_mostFar_50, u_X2_mostFar_52, u_X2_mostFar_53, u_X2_mostFar_56, u_X2_mostFar_58, u_X2_mostFar_61, u_X2_mostFar_64, u_X2_mostFar_66, u_X2_mostFar_69, u_X2_mostFar_70, u_X2_mostFar_71, u_X2_mostFar_72, u_X2_mostFar_73, u_X2_mostFar_74, u_X2_mostFar_75, u_X2_mostFar_76, u_X2_mostFar_77, u_X2_mostFar_79, u_X2_mostFar_80, u_X2_mostFar_81, u_X2_mostFar_82, u_X2_mostFar_85, u_X2_mostFar_87, u_X2_mostFar_89, u_X2_mostFar_91, u_X2_mostFar_94, u_X2_mostFar_96, u_X2_mostFar_99, u_X2_mostFar_101, u_X2_mostFar_104, u_X2_mostFar_107, u_X2_mostFar_110, u_X2_mostFar_112, u_X2_mostFar_113, u_X2_mostFar_115, u_X2_mostFar_117, u_X2_mostFar_120, u_X2_mostFar_122, u_X2_mostFar_123, u_X2_mostFar_124, u_X2_mostFar_125, u_X2_mostFar_126, u_X2_mostFar_127, u_X2_mostFar_128, u_X2_mostFar_129, u_X2_mostFar_131, u_X2_mostFar_132, u_X2_mostFar_133, u_X2_mostFar_135, u_X2_mostFar_138, u_X2_mostFar_141, zcl_i, zcl_r, zcl_l, zcl_0, Option.bind_some, Option.bind_none, Option.toList_some, Option.toList_none, List.cons_append, List.nil_append, zk_wI, zk_wR, zk_wC, zr_wI, zr_wC, zi_wR, zn_wI, zn_wR, zn_wC, if_true, if_false, true_or, or_true, or_false, false_or, true_and, and_true, ↓reduceIte, reduceCtorEq, Nat.reduceEqDiff, Nat.reduceLT, Nat.reduceLeDiff, Nat.reduceAdd, Nat.reduceSub, Nat.reduceMul, Int32.reduceLT, Int32.reduceLE, Int32.reduceAdd, Int32.reduceMul, Int32.reduceSub, Int32.reduceToNatClampNeg, and_self, or_self, and_false, false_and, not_true_eq_false, not_false_eq_true, K2 SH, c_taleAt SH TH.2.1 hN8 ht, x1, k0, K22 SH, iL, kl, R22_0 SH, K23 SH, nI_1, zix_nI (show k + 1 < 5 by omega) (by decide), zix_nI (show k < 5 by omega) (by decide), ra, rb, ka, tk, zk_cN, he, zi_cN4, sh1 t t8, nI_or, g1', lt1, c, ka3, r3, tk1, kcls, t3, c_has, zb, hb]
      · have ln := fun d => c_learn (d := d) ka3 T3 (show ta ≠ 24 + (k + 1) by omega) (a0 := nI (hmv h sp t st (nI kk))) (kn := nI kk) (c := nI (x ||| 2 ^ t)) (e := e') (f := f') (g := 0) (sp := zi h 37 1) (bl := zi h 37 9)
        rw [isN_self N3] at ln
        have ete' : nI kk ||| 1 <<< (zi h 41 t &&& 31) = nI (kk ||| 2 ^ qc) := ete
        simp only [ete'] at ln
        have kq : kk ||| 2 ^ qc < 256 := Nat.or_lt_two_pow (n := 8) hkk (Nat.pow_lt_pow_right (by decide) qc1)
        obtain ⟨H5, v2, w1, ⟨w2, w3⟩, w4, w5, w6, w7⟩ := ih (d + 4) (cN H3 (24 + (k + 1)) (nI (hmv h sp t st (nI kk)), nI (kk ||| 2 ^ qc), nI (x ||| 2 ^ t), e', f', 0) (zi h 37 1) (zi h 37 9)) (hmv h sp t st (nI kk)) (x ||| 2 ^ t) v1 (kk ||| 2 ^ qc) e' f' (by omega) ⟨g2.cN (by omega), by rw [zi_cN (by omega)]; exact g3⟩ isN_cN mlt x256 kq (by omega)
        have lt2 : (nI v1 < nI v2) = (v1 < v2) := nI_ltI' (by omega) (by omega)
        have eu : (if nI v1 < nI v2 then nI v2 else nI v1) = nI (max v1 v2) := by
          by_cases z : v1 < v2
          · rw [if_pos (by rw [lt2]; exact z), show max v1 v2 = v2 by omega]
          · rw [if_neg (by rw [lt2]; exact z), show max v1 v2 = v1 by omega]
        have eM : gM (hmv h sp) (hte h) sp N m st (nI kk) x t = max v1 v2 := by
          unfold gM
          rw [ete, ← ev1]
          by_cases z : v1 < gV (hmv h sp) (hte h) sp N m (hmv h sp t st (nI kk)) (nI (kk ||| 2 ^ qc)) (x ||| 2 ^ t)
          · rw [w5 z]
          · have := w6 (by omega)
            omega
        refine ⟨H5, max v1 v2, ?_, ⟨w2, w3⟩, by omega, fun _ => eM.symm, fun z => by omega, fun i hi y => by rw [w7 i (by omega) y, zi_cN (by omega)]; exact Q3 i hi y⟩
        have tk1 := T3.1
        rcases (show kd = 0 ∨ kd = 1 ∨ kd = 2 by have := T3.2.1; omega) with rfl | rfl | rfl <;>
        simp +decide only [u_X2_mostFar_0, u_X2_mostFar_1, u_X2_mostFar_3, u_X2_mostFar_6, u_X2_mostFar_8, u_X2_mostFar_10, u_X2_mostFar_13, u_X2_mostFar_14, u_X2_mostFar_17, u_X2_mostFar_18, u_X2_mostFar_19, u_X2_mostFar_22, u_X2_mostFar_25, u_X2_mostFar_26, u_X2_mostFar_27, u_X2_mostFar_28, u_X2_mostFar_31, u_X2_mostFar_32, u_X2_mostFar_33, u_X2_mostFar_34, u_X2_mostFar_35, u_X2_mostFar_37, u_X2_mostFar_39, u_X2_mostFar_40, u_X2_mostFar_43, u_X2_mostFar_44, u_X2_mostFar_45, u_X2_mostFar_48, u_X2_mostFar_50, u_X2_mostFar_52, u_X2_mostFar_53, u_X2_mostFar_56, u_X2_mostFar_58, u_X2_mostFar_61, u_X2_mostFar_64, u_X2_mostFar_66, u_X2_mostFar_69, u_X2_mostFar_70, u_X2_mostFar_71, u_X2_mostFar_72, u_X2_mostFar_73, u_X2_mostFar_74, u_X2_mostFar_75, u_X2_mostFar_76, u_X2_mostFar_77, u_X2_mostFar_79, u_X2_mostFar_80, u_X2_mostFar_81, u_X2_mostFar_82, u_X2_mostFar_85, u_X2_mostFar_87, u_X2_mostFar_89, u_X2_mostFar_91, u_X2_mostFar_94, u_X2_mostFar_96, u_X2_mostFar_99, u_X2_mostFar_101, u_X2_mostFar_104, u_X2_mostFar_107, u_X2_mostFar_110, u_X2_mostFar_112, u_X2_mostFar_113, u_X2_mostFar_115, u_X2_mostFar_117, u_X2_mostFar_120, u_X2_mostFar_122, u_X2_mostFar_123, u_X2_mostFar_124, u_X2_mostFar_125, u_X2_mostFar_126, u_X2_mostFar_127, u_X2_mostFar_128, u_X2_mostFar_129, u_X2_mostFar_131, u_X2_mostFar_132, u_X2_mostFar_133, u_X2_mostFar_135, u_X2_mostFar_138, u_X2_mostFar_141, zcl_i, zcl_r, zcl_l, zcl_0, Option.bind_some, Option.bind_none, Option.toList_some, Option.toList_none, List.cons_append, List.nil_append, zk_wI, zk_wR, zk_wC, zr_wI, zr_wC, zi_wR, zn_wI, zn_wR, zn_wC, if_true, if_false, true_or, or_true, or_false, false_or, true_and, and_true, ↓reduceIte, reduceCtorEq, Nat.reduceEqDiff, Nat.reduceLT, Nat.reduceLeDiff, Nat.reduceAdd, Nat.reduceSub, Nat.reduceMul, Int32.reduceLT, Int32.reduceLE, Int32.reduceAdd, Int32.reduceMul, Int32.reduceSub, Int32.reduceToNatClampNeg, and_self, or_self, and_false, false_and, not_true_eq_false, not_false_eq_true, K2 SH, c_taleAt SH TH.2.1 hN8 ht, x1, k0, K22 SH, iL, kl, R22_0 SH, K23 SH, nI_1, zix_nI (show k + 1 < 5 by omega) (by decide), zix_nI (show k < 5 by omega) (by decide), ra, rb, ka, tk, zk_cN, he, zi_cN4, sh1 t t8, nI_or, g1', lt1, c, ka3, r3, tk1, kcls, t3, c_has, zb, hb, ln, K22 S3, w1, eu]
    · have eM : v1 ≤ gM (hmv h sp) (hte h) sp N m st (nI kk) x t := by
        unfold gM
        rw [← ev1]
        omega
      refine ⟨H3, v1, ?_, ⟨g2, g3⟩, g4, fun z => by omega, fun z => by omega, Q3⟩
      simp +decide only [u_X2_mostFar_0, u_X2_mostFar_1, u_X2_mostFar_3, u_X2_mostFar_6, u_X2_mostFar_8, u_X2_mostFar_10, u_X2_mostFar_13, u_X2_mostFar_14, u_X2_mostFar_17, u_X2_mostFar_18, u_X2_mostFar_19, u_X2_mostFar_22, u_X2_mostFar_25, u_X2_mostFar_26, u_X2_mostFar_27, u_X2_mostFar_28, u_X2_mostFar_31, u_X2_mostFar_32, u_X2_mostFar_33, u_X2_mostFar_34, u_X2_mostFar_35, u_X2_mostFar_37, u_X2_mostFar_39, u_X2_mostFar_40, u_X2_mostFar_43, u_X2_mostFar_44, u_X2_mostFar_45, u_X2_mostFar_48, u_X2_mostFar_50, u_X2_mostFar_52, u_X2_mostFar_53, u_X2_mostFar_56, u_X2_mostFar_58, u_X2_mostFar_61, u_X2_mostFar_64, u_X2_mostFar_66, u_X2_mostFar_69, u_X2_mostFar_70, u_X2_mostFar_71, u_X2_mostFar_72, u_X2_mostFar_73, u_X2_mostFar_74, u_X2_mostFar_75, u_X2_mostFar_76, u_X2_mostFar_77, u_X2_mostFar_79, u_X2_mostFar_80, u_X2_mostFar_81, u_X2_mostFar_82, u_X2_mostFar_85, u_X2_mostFar_87, u_X2_mostFar_89, u_X2_mostFar_91, u_X2_mostFar_94, u_X2_mostFar_96, u_X2_mostFar_99, u_X2_mostFar_101, u_X2_mostFar_104, u_X2_mostFar_107, u_X2_mostFar_110, u_X2_mostFar_112, u_X2_mostFar_113, u_X2_mostFar_115, u_X2_mostFar_117, u_X2_mostFar_120, u_X2_mostFar_122, u_X2_mostFar_123, u_X2_mostFar_124, u_X2_mostFar_125, u_X2_mostFar_126, u_X2_mostFar_127, u_X2_mostFar_128, u_X2_mostFar_129, u_X2_mostFar_131, u_X2_mostFar_132, u_X2_mostFar_133, u_X2_mostFar_135, u_X2_mostFar_138, u_X2_mostFar_141, zcl_i, zcl_r, zcl_l, zcl_0, Option.bind_some, Option.bind_none, Option.toList_some, Option.toList_none, List.cons_append, List.nil_append, zk_wI, zk_wR, zk_wC, zr_wI, zr_wC, zi_wR, zn_wI, zn_wR, zn_wC, if_true, if_false, true_or, or_true, or_false, false_or, true_and, and_true, ↓reduceIte, reduceCtorEq, Nat.reduceEqDiff, Nat.reduceLT, Nat.reduceLeDiff, Nat.reduceAdd, Nat.reduceSub, Nat.reduceMul, Int32.reduceLT, Int32.reduceLE, Int32.reduceAdd, Int32.reduceMul, Int32.reduceSub, Int32.reduceToNatClampNeg, and_self, or_self, and_false, false_and, not_true_eq_false, not_false_eq_true, K2 SH, c_taleAt SH TH.2.1 hN8 ht, x1, k0, K22 SH, iL, kl, R22_0 SH, K23 SH, nI_1, zix_nI (show k + 1 < 5 by omega) (by decide), zix_nI (show k < 5 by omega) (by decide), ra, rb, ka, tk, zk_cN, he, zi_cN4, sh1 t t8, nI_or, g1', lt1, c]
theorem c_leastFar {h : zH} (S : St h) {N sp L : Nat} (T : IvT h N) (s1 : zi h 37 1 = nI sp) (hs : sp ≤ 9) (hs1 : 1 ≤ sp) (hL : L ≤ 4) : ∀ (m k : Nat), k + m = L → LF h sp N L m k := by
  intro m
  induction m with
  | zero =>
    intro k hk D H st x en kk e f hD I Nt hst hx hkk hen
    obtain ⟨d, rfl⟩ : ∃ d, D = d + 5 := ⟨D - 5, by omega⟩
    obtain ⟨P, iL⟩ := id I
    have SH := P.St S
    have ek : k = L := by omega
    subst ek
    have k0 : ¬ nI k < 0 := nI_pos (by omega)
    obtain ⟨kb, rb⟩ := K23x SH (show k < 5 by omega)
    have r0 : zi H (24 + k) 0 = nI st := Nt.2.2.2.1
    refine ⟨H, st, ?_, I, by omega, fun _ => rfl, fun z => z, fun _ _ _ => rfl⟩
    rw [e_X2_leastFar]
    simp +decide only [u_X2_leastFar_0, u_X2_leastFar_1, u_X2_leastFar_4, u_X2_leastFar_5, u_X2_leastFar_6, u_X2_leastFar_9, u_X2_leastFar_12, u_X2_leastFar_13, u_X2_leastFar_16, u_X2_leastFar_17, u_X2_leastFar_20, u_X2_leastFar_21, u_X2_leastFar_24, u_X2_leastFar_25, u_X2_leastFar_26, u_X2_leastFar_29, u_X2_leastFar_31, u_X2_leastFar_32, u_X2_leastFar_34, u_X2_leastFar_36, u_X2_leastFar_37, u_X2_leastFar_40, u_X2_leastFar_43, u_X2_leastFar_44, u_X2_leastFar_46, u_X2_leastFar_49, u_X2_leastFar_52, u_X2_leastFar_55, u_X2_leastFar_57, u_X2_leastFar_58, u_X2_leastFar_59, u_X2_leastFar_60, u_X2_leastFar_61, u_X2_leastFar_63, u_X2_leastFar_65, u_X2_leastFar_68, u_X2_leastFar_71, u_X2_leastFar_73, u_X2_leastFar_75, u_X2_leastFar_77, u_X2_leastFar_80, u_X2_leastFar_82, u_X2_leastFar_83, u_X2_leastFar_86, u_X2_leastFar_89, u_X2_leastFar_91, zcl_i, zcl_r, zcl_l, zcl_0, Option.bind_some, Option.bind_none, Option.toList_some, Option.toList_none, List.cons_append, List.nil_append, zk_wI, zk_wR, zk_wC, zr_wI, zr_wC, zi_wR, zn_wI, zn_wR, zn_wC, if_true, if_false, true_or, or_true, or_false, false_or, true_and, and_true, ↓reduceIte, reduceCtorEq, Nat.reduceEqDiff, Nat.reduceLT, Nat.reduceLeDiff, Nat.reduceAdd, Nat.reduceSub, Nat.reduceMul, Int32.reduceLT, Int32.reduceLE, Int32.reduceAdd, Int32.reduceMul, Int32.reduceSub, Int32.reduceToNatClampNeg, and_self, or_self, and_false, false_and, not_true_eq_false, not_false_eq_true, k0, K22 SH, iL, nI_ltI' (show k < 2 ^ 31 by omega) (show k < 2 ^ 31 by omega), Nat.lt_irrefl, R22_0 SH, K23 SH, zix_nI (show k < 5 by omega) (by decide), rb, kb, r0]
  | succ m ih =>
    intro k hk D H0 st x en kk e f hD I Nt hst hx hkk hen
    obtain ⟨d, rfl⟩ : ∃ d, D = d + 2 := ⟨D - 2, by omega⟩
    have hN8 := T.1
    have mf := c_mostFar S T s1 hs hs1 hL (show k < L by omega) (ih (k + 1) (by omega))
    have P0 := I.1
    have SH0 := P0.St S
    have TH0 := P0.IvT T
    have k0 : ¬ nI k < 0 := nI_pos (by omega)
    have kl : nI k < nI L := nI_lt (by omega) (by omega)
    have st0 : zi H0 2 0 = nI sp := by rw [TH0.2.2.2.1, P0.2.2.2.2 37 1 (zscr_no (by omega))]; exact s1
    rw [gV_succ hst]
    have loop : ∀ (i t : Nat) (H : zH), t + i = N → GI h H L → (∀ i, i ≤ k → ∀ y, zi H (24 + i) y = zi H0 (24 + i) y) → ∃ H' v, zX (d + 1) tb_X2_leastFar 34 [some (.inr (.inr (some 22))), some (.inr (.inr (some 2))), some (.inl (nI k)), some (.inl (nI x)), some (.inl (nI en)), some (.inl (nI (gmn x (gM (hmv h sp) (hte h) sp N m st (nI kk) x) t sp))), some (.inl (nI t))] [] H = some (some (.inl (nI v)), H') ∧ GI h H' L ∧ v ≤ sp ∧ (en < gmn x (gM (hmv h sp) (hte h) sp N m st (nI kk) x) N sp → v = gmn x (gM (hmv h sp) (hte h) sp N m st (nI kk) x) N sp) ∧ (gmn x (gM (hmv h sp) (hte h) sp N m st (nI kk) x) N sp ≤ en → v ≤ en) ∧ ∀ i, i ≤ k → ∀ y, zi H' (24 + i) y = zi H0 (24 + i) y := by
      intro i
      induction i with
      | zero =>
        intro t H ht J Q
        have et : t = N := by omega
        subst et
        have SH := J.1.St S
        have TH := J.1.IvT T
        refine ⟨H, _, ?_, J, gmn_le, fun _ => rfl, fun z => z, Q⟩
        simp +decide only [u_X2_leastFar_0, u_X2_leastFar_1, u_X2_leastFar_4, u_X2_leastFar_5, u_X2_leastFar_6, u_X2_leastFar_9, u_X2_leastFar_12, u_X2_leastFar_13, u_X2_leastFar_16, u_X2_leastFar_17, u_X2_leastFar_20, u_X2_leastFar_21, u_X2_leastFar_24, u_X2_leastFar_25, u_X2_leastFar_26, u_X2_leastFar_29, u_X2_leastFar_31, u_X2_leastFar_32, u_X2_leastFar_34, u_X2_leastFar_36, u_X2_leastFar_37, u_X2_leastFar_40, u_X2_leastFar_43, u_X2_leastFar_44, u_X2_leastFar_46, u_X2_leastFar_49, u_X2_leastFar_52, u_X2_leastFar_55, u_X2_leastFar_57, u_X2_leastFar_58, u_X2_leastFar_59, u_X2_leastFar_60, u_X2_leastFar_61, u_X2_leastFar_63, u_X2_leastFar_65, u_X2_leastFar_68, u_X2_leastFar_71, u_X2_leastFar_73, u_X2_leastFar_75, u_X2_leastFar_77, u_X2_leastFar_80, u_X2_leastFar_82, u_X2_leastFar_83, u_X2_leastFar_86, u_X2_leastFar_89, u_X2_leastFar_91, zcl_i, zcl_r, zcl_l, zcl_0, Option.bind_some, Option.bind_none, Option.toList_some, Option.toList_none, List.cons_append, List.nil_append, zk_wI, zk_wR, zk_wC, zr_wI, zr_wC, zi_wR, zn_wI, zn_wR, zn_wC, if_true, if_false, true_or, or_true, or_false, false_or, true_and, and_true, ↓reduceIte, reduceCtorEq, Nat.reduceEqDiff, Nat.reduceLT, Nat.reduceLeDiff, Nat.reduceAdd, Nat.reduceSub, Nat.reduceMul, Int32.reduceLT, Int32.reduceLE, Int32.reduceAdd, Int32.reduceMul, Int32.reduceSub, Int32.reduceToNatClampNeg, and_self, or_self, and_false, false_and, not_true_eq_false, not_false_eq_true, K2 SH, TH.2.1, nI_ltI' (show t < 2 ^ 31 by omega) (show t < 2 ^ 31 by omega), Nat.lt_irrefl]
      | succ i ih2 =>
        intro t H ht J Q
        have htN : t < N := by omega
        have SH := J.1.St S
        have TH := J.1.IvT T
        have lt : (nI t < nI N) = (t < N) := nI_ltI' (by omega) (by omega)
        have zb := zb_tb x hx t (by omega)
        have ale : gmn x (gM (hmv h sp) (hte h) sp N m st (nI kk) x) t sp ≤ sp := gmn_le
        cases hb : x.testBit t with
        | true =>
          have e1 : gmn x (gM (hmv h sp) (hte h) sp N m st (nI kk) x) (t + 1) sp = gmn x (gM (hmv h sp) (hte h) sp N m st (nI kk) x) t sp := by rw [gmn, if_pos hb]
          obtain ⟨H', v, c1, c2⟩ := ih2 (t + 1) H (by omega) J Q
          rw [e1] at c1
          refine ⟨H', v, Eq.trans ?_ c1, c2⟩
          rw [u_X2_leastFar_34]
          simp +decide only [u_X2_leastFar_0, u_X2_leastFar_1, u_X2_leastFar_4, u_X2_leastFar_5, u_X2_leastFar_6, u_X2_leastFar_9, u_X2_leastFar_12, u_X2_leastFar_13, u_X2_leastFar_16, u_X2_leastFar_17, u_X2_leastFar_20, u_X2_leastFar_21, u_X2_leastFar_24, u_X2_leastFar_25, u_X2_leastFar_26, u_X2_leastFar_29, u_X2_leastFar_31, u_X2_leastFar_32, u_X2_leastFar_36, u_X2_leastFar_37, u_X2_leastFar_40, u_X2_leastFar_43, u_X2_leastFar_44, u_X2_leastFar_46, u_X2_leastFar_49, u_X2_leastFar_52, u_X2_leastFar_55, u_X2_leastFar_57, u_X2_leastFar_58, u_X2_leastFar_59, u_X2_leastFar_60, u_X2_leastFar_61, u_X2_leastFar_63, u_X2_leastFar_65, u_X2_leastFar_68, u_X2_leastFar_71, u_X2_leastFar_73, u_X2_leastFar_75, u_X2_leastFar_77, u_X2_leastFar_80, u_X2_leastFar_82, u_X2_leastFar_83, u_X2_leastFar_86, u_X2_leastFar_89, u_X2_leastFar_91, zcl_i, zcl_r, zcl_l, zcl_0, Option.bind_some, Option.bind_none, Option.toList_some, Option.toList_none, List.cons_append, List.nil_append, zk_wI, zk_wR, zk_wC, zr_wI, zr_wC, zi_wR, zn_wI, zn_wR, zn_wC, if_true, if_false, true_or, or_true, or_false, false_or, true_and, and_true, ↓reduceIte, reduceCtorEq, Nat.reduceEqDiff, Nat.reduceLT, Nat.reduceLeDiff, Nat.reduceAdd, Nat.reduceSub, Nat.reduceMul, Int32.reduceLT, Int32.reduceLE, Int32.reduceAdd, Int32.reduceMul, Int32.reduceSub, Int32.reduceToNatClampNeg, and_self, or_self, and_false, false_and, not_true_eq_false, not_false_eq_true, K2 SH, TH.2.1, lt, htN, c_has, zb, hb, nI_1]
        | false =>
          have e1 : gmn x (gM (hmv h sp) (hte h) sp N m st (nI kk) x) (t + 1) sp = min (gmn x (gM (hmv h sp) (hte h) sp N m st (nI kk) x) t sp) (gM (hmv h sp) (hte h) sp N m st (nI kk) x t) := by rw [gmn, if_neg (by rw [hb]; decide)]
          obtain ⟨H1, u, m1, m2, m3, m4, m5, m6⟩   := mf (d + 1) H st x (gmn x (gM (hmv h sp) (hte h) sp N m st (nI kk) x) t sp) kk t e f (by omega) J (isN_of Nt (Q k (Nat.le_refl k))) hst hx hkk (by omega) htN hb
          have eu : (if nI u < nI (gmn x (gM (hmv h sp) (hte h) sp N m st (nI kk) x) t sp) then nI u else nI (gmn x (gM (hmv h sp) (hte h) sp N m st (nI kk) x) t sp)) = nI (gmn x (gM (hmv h sp) (hte h) sp N m st (nI kk) x) (t + 1) sp) := by
            rw [e1]
            by_cases z : gM (hmv h sp) (hte h) sp N m st (nI kk) x t < gmn x (gM (hmv h sp) (hte h) sp N m st (nI kk) x) t sp
            · rw [m4 z, if_pos (nI_lt z (by omega))]
              congr 1
              omega
            · have := m5 (by omega)
              rw [if_neg (nI_nlt this (by omega))]
              congr 1
              omega
          have SH1 := m2.1.St S
          have Q1 : ∀ i, i ≤ k → ∀ y, zi H1 (24 + i) y = zi H0 (24 + i) y := fun i hi y => (m6 i hi y).trans (Q i hi y)
          have ale' : gmn x (gM (hmv h sp) (hte h) sp N m st (nI kk) x) (t + 1) sp ≤ sp := gmn_le
          have le1 : (nI en < nI (gmn x (gM (hmv h sp) (hte h) sp N m st (nI kk) x) (t + 1) sp)) = (en < gmn x (gM (hmv h sp) (hte h) sp N m st (nI kk) x) (t + 1) sp) := nI_ltI' (by omega) (by omega)
          by_cases ce : en < gmn x (gM (hmv h sp) (hte h) sp N m st (nI kk) x) (t + 1) sp
          · obtain ⟨H', v, c1, c2⟩ := ih2 (t + 1) H1 (by omega) m2 Q1
            refine ⟨H', v, Eq.trans ?_ c1, c2⟩
            rw [u_X2_leastFar_34]
            simp +decide only [u_X2_leastFar_0, u_X2_leastFar_1, u_X2_leastFar_4, u_X2_leastFar_5, u_X2_leastFar_6, u_X2_leastFar_9, u_X2_leastFar_12, u_X2_leastFar_13, u_X2_leastFar_16, u_X2_leastFar_17, u_X2_leastFar_20, u_X2_leastFar_21, u_X2_leastFar_24, u_X2_leastFar_25, u_X2_leastFar_26, u_X2_leastFar_29, u_X2_leastFar_31, u_X2_leastFar_32, u_X2_leastFar_36, u_X2_leastFar_37, u_X2_leastFar_40, u_X2_leastFar_43, u_X2_leastFar_44, u_X2_leastFar_46, u_X2_leastFar_49, u_X2_leastFar_52, u_X2_leastFar_55, u_X2_leastFar_57, u_X2_leastFar_58, u_X2_leastFar_59, u_X2_leastFar_60, u_X2_leastFar_61, u_X2_leastFar_63, u_X2_leastFar_65, u_X2_leastFar_68, u_X2_leastFar_71, u_X2_leastFar_73, u_X2_leastFar_75, u_X2_leastFar_77, u_X2_leastFar_80, u_X2_leastFar_82, u_X2_leastFar_83, u_X2_leastFar_86, u_X2_leastFar_89, u_X2_leastFar_91, zcl_i, zcl_r, zcl_l, zcl_0, Option.bind_some, Option.bind_none, Option.toList_some, Option.toList_none, List.cons_append, List.nil_append, zk_wI, zk_wR, zk_wC, zr_wI, zr_wC, zi_wR, zn_wI, zn_wR, zn_wC, if_true, if_false, true_or, or_true, or_false, false_or, true_and, and_true, ↓reduceIte, reduceCtorEq, Nat.reduceEqDiff, Nat.reduceLT, Nat.reduceLeDiff, Nat.reduceAdd, Nat.reduceSub, Nat.reduceMul, Int32.reduceLT, Int32.reduceLE, Int32.reduceAdd, Int32.reduceMul, Int32.reduceSub, Int32.reduceToNatClampNeg, and_self, or_self, and_false, false_and, not_true_eq_false, not_false_eq_true, K2 SH, TH.2.1, lt, htN, c_has, zb, hb, K22 SH, m1, eu, le1, ce, nI_1]
          · have mo := gmn_mono (x := x) (f := gM (hmv h sp) (hte h) sp N m st (nI kk) x) (a := sp) (show t + 1 ≤ N by omega)
            refine ⟨H1, gmn x (gM (hmv h sp) (hte h) sp N m st (nI kk) x) (t + 1) sp, ?_, m2, ale', fun z => by omega, fun z => by omega, Q1⟩
            rw [u_X2_leastFar_34]
            simp +decide only [u_X2_leastFar_0, u_X2_leastFar_1, u_X2_leastFar_4, u_X2_leastFar_5, u_X2_leastFar_6, u_X2_leastFar_9, u_X2_leastFar_12, u_X2_leastFar_13, u_X2_leastFar_16, u_X2_leastFar_17, u_X2_leastFar_20, u_X2_leastFar_21, u_X2_leastFar_24, u_X2_leastFar_25, u_X2_leastFar_26, u_X2_leastFar_29, u_X2_leastFar_31, u_X2_leastFar_32, u_X2_leastFar_36, u_X2_leastFar_37, u_X2_leastFar_40, u_X2_leastFar_43, u_X2_leastFar_44, u_X2_leastFar_46, u_X2_leastFar_49, u_X2_leastFar_52, u_X2_leastFar_55, u_X2_leastFar_57, u_X2_leastFar_58, u_X2_leastFar_59, u_X2_leastFar_60, u_X2_leastFar_61, u_X2_leastFar_63, u_X2_leastFar_65, u_X2_leastFar_68, u_X2_leastFar_71, u_X2_leastFar_73, u_X2_leastFar_75, u_X2_leastFar_77, u_X2_leastFar_80, u_X2_leastFar_82, u_X2_leastFar_83, u_X2_leastFar_86, u_X2_leastFar_89, u_X2_leastFar_91, zcl_i, zcl_r, zcl_l, zcl_0, Option.bind_some, Option.bind_none, Option.toList_some, Option.toList_none, List.cons_append, List.nil_append, zk_wI, zk_wR, zk_wC, zr_wI, zr_wC, zi_wR, zn_wI, zn_wR, zn_wC, if_true, if_false, true_or, or_true, or_false, false_or, true_and, and_true, ↓reduceIte, reduceCtorEq, Nat.reduceEqDiff, Nat.reduceLT, Nat.reduceLeDiff, Nat.reduceAdd, Nat.reduceSub, Nat.reduceMul, Int32.reduceLT, Int32.reduceLE, Int32.reduceAdd, Int32.reduceMul, Int32.reduceSub, Int32.reduceToNatClampNeg, and_self, or_self, and_false, false_and, not_true_eq_false, not_false_eq_true, K2 SH, TH.2.1, lt, htN, c_has, zb, hb, K22 SH, m1, eu, le1, ce]
    obtain ⟨H', v, c1, c2⟩ := loop N 0 H0 (by omega) I (fun _ _ _ => rfl)
    refine ⟨H', v, ?_, c2⟩
    rw [e_X2_leastFar]
    simp +decide only [u_X2_leastFar_0, u_X2_leastFar_1, u_X2_leastFar_4, u_X2_leastFar_5, u_X2_leastFar_6, u_X2_leastFar_9, u_X2_leastFar_12, u_X2_leastFar_13, u_X2_leastFar_16, u_X2_leastFar_17, u_X2_leastFar_20, u_X2_leastFar_21, u_X2_leastFar_24, u_X2_leastFar_25, u_X2_leastFar_26, u_X2_leastFar_29, u_X2_leastFar_31, u_X2_leastFar_32, u_X2_leastFar_36, u_X2_leastFar_37, u_X2_leastFar_40, u_X2_leastFar_43, u_X2_leastFar_44, u_X2_leastFar_46, u_X2_leastFar_49, u_X2_leastFar_52, u_X2_leastFar_55, u_X2_leastFar_57, u_X2_leastFar_58, u_X2_leastFar_59, u_X2_leastFar_60, u_X2_leastFar_61, u_X2_leastFar_63, u_X2_leastFar_65, u_X2_leastFar_68, u_X2_leastFar_71, u_X2_leastFar_73, u_X2_leastFar_75, u_X2_leastFar_77, u_X2_leastFar_80, u_X2_leastFar_82, u_X2_leastFar_83, u_X2_leastFar_86, u_X2_leastFar_89, u_X2_leastFar_91, zcl_i, zcl_r, zcl_l, zcl_0, Option.bind_some, Option.bind_none, Option.toList_some, Option.toList_none, List.cons_append, List.nil_append, zk_wI, zk_wR, zk_wC, zr_wI, zr_wC, zi_wR, zn_wI, zn_wR, zn_wC, if_true, if_false, true_or, or_true, or_false, false_or, true_and, and_true, ↓reduceIte, reduceCtorEq, Nat.reduceEqDiff, Nat.reduceLT, Nat.reduceLeDiff, Nat.reduceAdd, Nat.reduceSub, Nat.reduceMul, Int32.reduceLT, Int32.reduceLE, Int32.reduceAdd, Int32.reduceMul, Int32.reduceSub, Int32.reduceToNatClampNeg, and_self, or_self, and_false, false_and, not_true_eq_false, not_false_eq_true, k0, K22 SH0, I.2, kl, K2 SH0, st0]
    exact c1
