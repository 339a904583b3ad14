/-! a run of a method is sound: contracts out of answers -/
theorem zex_mono {cal : Nat → List zV → zH → Option zR} {cd : Nat → Option zO} (hc : ∀ mid as h r, cal mid as h = some r → zn h ≤ zn r.2 ∧ zu h ≤ zu r.2) : ∀ (n : Nat) (x : zS) (r : zR), zex cal cd n x = some r → zn x.2.2.2 ≤ zn r.2 ∧ zu x.2.2.2 ≤ zu r.2
  | 0, _, _, h => by simp [zex] at h
  | n + 1, x, r, h => by
    simp only [zex] at h
    cases hs : (cd x.1).bind fun o => zstp cal o x with
    | none => rw [hs] at h; cases h
    | some w =>
      rw [hs] at h
      cases ho : cd x.1 with
      | none => rw [ho] at hs; cases hs
      | some o =>
        rw [ho, Option.bind_some] at hs
        cases w with
        | inl q =>
          cases h
          have h1 := zm_end hs
          unfold zret at h1
          split at h1
          · split at h1
            · cases h1
            · cases h1
              exact ⟨Nat.le_refl _, Nat.le_refl _⟩
          · cases h1
            exact ⟨Nat.le_refl _, Nat.le_refl _⟩
          · cases h1
            exact ⟨Nat.le_refl _, Nat.le_refl _⟩
          · cases h1
            exact ⟨Nat.le_refl _, Nat.le_refl _⟩
          · cases h1
        | inr y =>
          have h1 := zm_step hc hs
          have h2 := zex_mono hc n y r h
          omega
theorem zlsA_len (b B : Nat) : ∀ as : List zV, (lg_sl (as.map (ztr b B))).length = (zlsA as).length
  | [] => rfl
  | v :: as => by
    have ih := zlsA_len b B as
    have hc := ztr_cat b B v
    simp only [lg_sl, List.map_cons, List.flatMap_cons, List.length_append, zlsA] at ih ⊢
    by_cases hv : zlong v = true
    · rw [if_pos hv, if_pos (hc.mpr hv)]
      simp only [List.length_cons, List.length_nil]
      omega
    · rw [if_neg hv, if_neg (fun z => hv (hc.mp z))]
      simp only [List.length_cons, List.length_nil]
      omega
theorem zlsA_get (b B : Nat) : ∀ (as : List zV) (i : Nat) (v : zV), (zlsA as)[i]? = some (some v) → (lg_sl (as.map (ztr b B)))[i]? = some (.val (ztr b B v))
  | [], i, v, h => by simp [zlsA] at h
  | w :: as, i, v, h => by
    have hc := ztr_cat b B w
    simp only [lg_sl, List.map_cons, List.flatMap_cons, zlsA] at h ⊢
    by_cases hv : zlong w = true
    · rw [if_pos hv] at h
      rw [if_pos (hc.mpr hv)]
      match i, h with
      | 0, h =>
        simp at h
        simp [h]
      | 1, h => simp at h
      | i + 2, h =>
        simp at h
        have := zlsA_get b B as i v h
        simpa [lg_sl] using this
    · rw [if_neg hv] at h
      rw [if_neg (fun z => hv (hc.mp z))]
      match i, h with
      | 0, h =>
        simp at h
        simp [h]
      | i + 1, h =>
        simp at h
        have := zlsA_get b B as i v h
        simpa [lg_sl] using this
theorem zLV_entry (b B : Nat) (as : List zV) {n : Nat} (h : (zlsA as).length ≤ n) : zLV b B ((lg_sl (as.map (ztr b B)) ++ List.replicate (n - (lg_sl (as.map (ztr b B))).length) Slot.unset).toArray) n (zls as n) := by
  have h1 := lv_entry (as.map (ztr b B)) (n := n) (by rw [zlsA_len]; exact h)
  refine ⟨h1.1, h1.2.1, ?_, fun i v hi => ?_⟩
  · unfold zls
    simp
    omega
  · unfold zls at hi
    rcases Nat.lt_or_ge i (zlsA as).length with q | q
    · rw [List.getElem?_append_left q] at hi
      have h2 := zlsA_get b B as i v hi
      rw [List.getElem?_toArray, List.getElem?_append_left (by rw [zlsA_len]; exact q)]
      exact h2
    · rw [List.getElem?_append_right q] at hi
      have h3 : i - (zlsA as).length < n - (zlsA as).length := by
        have := (List.getElem?_eq_some_iff.mp hi).1
        simpa using this
      rw [List.getElem?_replicate, if_pos h3] at hi
      cases hi
section ZRUN
variable {p : Program} {l : Launch} {e : Env} {R : Room} {s : State} {m : MethodId} {args : Array Value} {below : List Frame} {meth : Method} {c : Code} {cc : ByteArray} {own nm : String} {nL b B L n0 u0 d : Nat} {xs : Nat → Int32} {dC : Nat → ClassId} {dI : Nat → Nat → Nat} {cA : Nat → ClassId} {M : Nat → zQ}
theorem zs_ret {pc : Nat} {ls : zL} {st : List zV} {h : zH} (C : zCx p s m args meth c cc own nm nL b B L xs dC dI cA) {ret : Option FieldType} {tab : List (Nat × zO)} (hT : zTok M own nm cc ret tab) (hret : meth.sig.returnType = ret) {o : zO} (ho : (pc, o) ∈ tab) {r : zR} (hs : zret o st h = some (.inl r)) : zWA p l e R s m args below meth c (MQ below (zQc b B L xs dC dI cA r) args s (zn r.2 - n0) (zu r.2 - u0) (fun q => B ≤ q)) b B L xs dC dI cA n0 u0 nL (pc, ls, st, h) := by
  obtain ⟨hdg, -, -, -, hoks⟩ := hT _ ho
  obtain ⟨hx, hb, -, -, -, -, -, -, -, hlocks, -⟩ := C
  obtain ⟨i, len, k, tb⟩ := o
  dsimp only at hdg hoks
  unfold zret at hs
  split at hs
  · rename_i v hi
    dsimp only at hi
    subst hi
    split at hs
    · cases hs
    · rename_i hv
      cases hs
      intro H locs la hR hS hl
      simp only [zoks, Bool.or_eq_true, Bool.and_eq_true, decide_eq_true_eq] at hoks
      rcases hoks with ⟨h1, h2⟩ | ⟨h1, h2⟩
      · exact W.iret hx hb (hret.trans h2) (fun t ht hW => ⟨rfl, by rw [ht]; exact hR, hS.F ht⟩) hS.2.2 hdg hlocks
      · have hv2 : v = 0 ∨ v = 1 := by
          by_cases q : v = 0 ∨ v = 1
          · exact q
          · exact absurd ⟨h1, q⟩ hv
        exact W.zret hx hb (hret.trans h2) (by rcases hv2 with rfl | rfl <;> decide) (fun t ht hW => ⟨rfl, by rw [ht]; exact hR, hS.F ht⟩) hS.2.2 hdg hlocks
  · rename_i v hi
    dsimp only at hi
    subst hi
    cases hs
    intro H locs la hR hS hl
    exact W.lret hx hb (hret.trans (of_decide_eq_true hoks)) (fun t ht hW => ⟨rfl, by rw [ht]; exact hR, hS.F ht⟩) hS.2.2 hdg hlocks
  · rename_i v hi
    dsimp only at hi
    subst hi
    cases hs
    intro H locs la hR hS hl
    unfold zoks at hoks
    dsimp only at hoks
    have hrt : ∃ rt, ret = some rt ∧ ((∃ n, rt = .object n) ∨ ∃ t, rt = .array t) := by
      split at hoks
      · exact ⟨_, rfl, Or.inl ⟨_, rfl⟩⟩
      · exact ⟨_, rfl, Or.inr ⟨_, rfl⟩⟩
      · cases hoks
    obtain ⟨rt, h2, h3⟩ := hrt
    exact W.aret hx hb (hret.trans h2) h3 (by cases v with
      | none => exact Or.inl rfl
      | some v => exact Or.inr ⟨_, rfl⟩) (fun t ht hW => ⟨rfl, by rw [ht]; exact hR, hS.F ht⟩) hS.2.2 hdg hlocks
  · rename_i hi
    dsimp only at hi
    subst hi
    cases hs
    intro H locs la hR hS hl
    exact W.vret hx hb (hret.trans (of_decide_eq_true hoks)) (fun t ht hW => ⟨rfl, by rw [ht]; exact hR, hS.F ht⟩) hS.2.2 hdg hlocks
  · cases hs
theorem zs_exec {Q : State → Prop} (C : zCx p s m args meth c cc own nm nL b B L xs dC dI cA) (hok : ∀ mid, zMok M mid) (hM : zMet M l b B L xs dC dI cA d) (hfr : d + 1 ≤ R.frames) (hlo : 40 * d + 40 ≤ R.locals) (hn0 : s.heap.size + 1 = B + n0) {ret : Option FieldType} {tab : List (Nat × zO)} (hT : zTok M own nm cc ret tab) {r : zR} (hc : zn r.2 - n0 ≤ R.cells) (hsl : zu r.2 - u0 ≤ R.slots)
    (hend : ∀ (pc : Nat) (ls : zL) (st : List zV) (h : zH) (o : zO), (pc, o) ∈ tab → zret o st h = some (.inl r) → zWA p l e R s m args below meth c Q b B L xs dC dI cA n0 u0 nL (pc, ls, st, h)) :
    ∀ (n : Nat) (x : zS), zex (zcall (zP M) d) (zlk tab) n x = some r → n0 ≤ zn x.2.2.2 → u0 ≤ zu x.2.2.2 → zWA p l e R s m args below meth c Q b B L xs dC dI cA n0 u0 nL x := by
  intro n
  induction n with
  | zero =>
    intro x h
    simp [zex] at h
  | succ n ih =>
    intro x h hle hu
    obtain ⟨pc, ls, st, hp⟩ := x
    have hcal : ∀ mid as h r, zcall (zP M) d mid as h = some r → zn h ≤ zn r.2 ∧ zu h ≤ zu r.2 := fun mid as h r hr => (hM mid as h r hr).1
    simp only [zex] at h
    cases hs : (zlk tab pc).bind fun o => zstp (zcall (zP M) d) o (pc, ls, st, hp) with
    | none => rw [hs] at h; cases h
    | some w =>
      rw [hs] at h
      cases ho : zlk tab pc with
      | none => rw [ho] at hs; cases hs
      | some o =>
        rw [ho, Option.bind_some] at hs
        cases w with
        | inl q =>
          cases h
          exact hend pc ls st hp o (zlk_mem ho) (zm_end hs)
        | inr y =>
          have h1 := zm_step hcal hs
          have h2 := zex_mono hcal n y r h
          dsimp only at h1 hle hu
          exact zs_step C hok hM hfr hlo hn0 hle hu hT (zlk_mem ho) hs (by omega) (by omega) (ih y h (by omega) (by omega))
end ZRUN
theorem zMet_all {M : Nat → zQ} (hok : ∀ mid, zMok M mid) (l : Launch) {b B L : Nat} (hbB : b < B) (xs : Nat → Int32) (dC : Nat → ClassId) (dI : Nat → Nat → Nat) (cA : Nat → ClassId) : ∀ d, zMet M l b B L xs dC dI cA d := by
  intro d
  induction d with
  | zero =>
    intro mid as h r hr
    simp [zcall] at hr
  | succ d ih =>
    intro mid as h r hr
    rw [zcall_succ] at hr
    split at hr
    · rename_i hlen
      obtain ⟨n, hn⟩ := zx_iff.mp hr
      have hcal : ∀ mid as h r, zcall (zP M) d mid as h = some r → zn h ≤ zn r.2 ∧ zu h ≤ zu r.2 := fun mid as h r hr => (ih mid as h r hr).1
      have hmono := zex_mono hcal n _ r hn
      refine ⟨hmono, fun hcd => ?_⟩
      obtain ⟨hT, hpl, hmh, hpar, hmax⟩ := hok mid
      refine Met.ofW (cc := (M mid).2.1) (maxL := (M mid).2.2.1) (ret := (M mid).2.2.2.2.1) hpl rfl ?_
      intro p e s m args below meth c s₁ Bd hml hv
      obtain ⟨rfl, hR, hK, hX, hBs⟩ := hv
      have hts0 := atoms_spec (ws := zwsM M mid) Bd.pre
      have C : zCx p s m (as.map (ztr b B)).toArray meth c (M mid).2.1 (M mid).1.cls (M mid).1.name (M mid).2.2.1 b B L xs dC dI cA :=
        ⟨Bd.exec, Bd.bytes, hml, findClass_of_methodNamed Bd.named, fun w hw => hts0 w (List.mem_cons_of_mem _ hw), hK, hX, hbB, hBs, Bd.notSynchronized, (name_of_methodNamed Bd.named Bd.method).1⟩
      have hl := zLV_entry b B as hlen
      rw [lg_entry_eq]
      have key := zs_exec (R := (headSpec (zwsM M mid) (zrm (d + 1) (zn r.2 - zn h) (zu r.2 - zu h))).room) (below := below) (e := e) (n0 := zn h) (u0 := zu h) (Q := MQ below (zQc b B L xs dC dI cA r) (as.map (ztr b B)).toArray s (zn r.2 - zn h) (zu r.2 - zu h) (fun q => B ≤ q)) C hok ih (Nat.le_refl (d + 1)) (show 40 * d + 40 ≤ 40 * (d + 1) by omega) hR.2.1 hT (r := r) (Nat.le_refl _) (Nat.le_refl _) (fun pc ls st h' o ho hs => zs_ret C hT Bd.returns ho hs) n _ hn (Nat.le_refl _) (Nat.le_refl _)
      have K := key s.heap [] _ hR va_S.rf hl
      dsimp only at K
      rw [Nat.sub_self, Nat.sub_self] at K
      exact K
    · cases hr
