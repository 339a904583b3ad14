/-! no call writes the script -/
def zTh (w : zR ⊕ zS) : zH := match w with
  | .inl r => r.2
  | .inr y => y.2.2.2
def Sc (L : Nat) (xs : Nat → Int32) (h : zH) : Prop := 0 < zn h ∧ zk h 0 = (16, L) ∧ ∀ j, zi h 0 j = xs j
def zpf (o : zO) : Bool := match o.1 with
  | .putfield _ => o.2.2.2.all (fun q => decide (¬ q.1 = 16))
  | _ => true
theorem th_go {pc : Nat} {ls : zL} {st : List zV} {h : zH} {w : zR ⊕ zS} (e : zgo pc ls st h = some w) : zTh w = h := by
  cases e; rfl
theorem th_push {k pc : Nat} {ls : zL} {st : List zV} {h : zH} {v : zV} {w : zR ⊕ zS} (e : zpush k pc ls st h v = some w) : zTh w = h := by
  cases e; rfl
theorem th_op2 {f : Int32 → Int32 → Option Int32} {pc : Nat} {ls : zL} {st : List zV} {h : zH} {w : zR ⊕ zS} (e : zop2 f pc ls st h = some w) : zTh w = h := by
  unfold zop2 at e
  split at e
  · obtain ⟨v, -, e⟩ := Option.bind_eq_some_iff.mp e
    exact th_go e
  · cases e
theorem th_op2l {f : Int64 → Int64 → Option Int64} {pc : Nat} {ls : zL} {st : List zV} {h : zH} {w : zR ⊕ zS} (e : zop2l f pc ls st h = some w) : zTh w = h := by
  unfold zop2l at e
  split at e
  · obtain ⟨v, -, e⟩ := Option.bind_eq_some_iff.mp e
    exact th_go e
  · cases e
theorem th_op1 {f : Int32 → zV} {pc : Nat} {ls : zL} {st : List zV} {h : zH} {w : zR ⊕ zS} (e : zop1 f pc ls st h = some w) : zTh w = h := by
  unfold zop1 at e
  split at e
  · exact th_go e
  · cases e
theorem th_load {w0 k i pc : Nat} {ls : zL} {st : List zV} {h : zH} {w : zR ⊕ zS} (e : zload w0 k i pc ls st h = some w) : zTh w = h := by
  unfold zload at e
  split at e
  · exact th_push e
  · exact th_push e
  · exact th_push e
  · cases e
theorem th_store {w0 k i pc : Nat} {ls : zL} {st : List zV} {h : zH} {w : zR ⊕ zS} (e : zstore w0 k i pc ls st h = some w) : zTh w = h := by
  unfold zstore at e
  split at e
  · split at e
    · exact th_go e
    · cases e
  · split at e
    · exact th_go e
    · cases e
  · split at e
    · exact th_go e
    · cases e
  · cases e
theorem th_inc {i : Nat} {n : Int} {pc : Nat} {ls : zL} {st : List zV} {h : zH} {w : zR ⊕ zS} (e : zinc i n pc ls st h = some w) : zTh w = h := by
  unfold zinc at e
  split at e
  · split at e
    · exact th_go e
    · cases e
  · cases e
theorem th_lcmp {pc : Nat} {ls : zL} {st : List zV} {h : zH} {w : zR ⊕ zS} (e : zlcmp pc ls st h = some w) : zTh w = h := by
  unfold zlcmp at e
  split at e
  · exact th_go e
  · cases e
theorem th_dup {pc : Nat} {ls : zL} {st : List zV} {h : zH} {w : zR ⊕ zS} (e : zdup pc ls st h = some w) : zTh w = h := by
  unfold zdup at e
  split at e
  · split at e
    · exact th_go e
    · cases e
  · cases e
theorem th_dup2 {pc : Nat} {ls : zL} {st : List zV} {h : zH} {w : zR ⊕ zS} (e : zdup2 pc ls st h = some w) : zTh w = h := by
  unfold zdup2 at e
  split at e
  · split at e
    · exact th_go e
    · cases e
  · cases e
theorem th_pop {pc : Nat} {ls : zL} {st : List zV} {h : zH} {w : zR ⊕ zS} (e : zpop pc ls st h = some w) : zTh w = h := by
  unfold zpop at e
  split at e
  · split at e
    · exact th_go e
    · cases e
  · cases e
theorem th_jump {c : ClassFile.Cond} {off : Int} {pc : Nat} {ls : zL} {st : List zV} {h : zH} {w : zR ⊕ zS} (e : zjump c off pc ls st h = some w) : zTh w = h := by
  unfold zjump at e
  split at e
  · split at e
    · exact th_go e
    · exact th_go e
  · cases e
theorem th_jump2 {c : ClassFile.Cond} {off : Int} {pc : Nat} {ls : zL} {st : List zV} {h : zH} {w : zR ⊕ zS} (e : zjump2 c off pc ls st h = some w) : zTh w = h := by
  unfold zjump2 at e
  split at e
  · split at e
    · exact th_go e
    · exact th_go e
  · cases e
theorem th_jumpN {z : Bool} {off : Int} {pc : Nat} {ls : zL} {st : List zV} {h : zH} {w : zR ⊕ zS} (e : zjumpN z off pc ls st h = some w) : zTh w = h := by
  unfold zjumpN at e
  split at e
  · split at e
    · exact th_go e
    · exact th_go e
  · cases e
theorem th_tab {d lo hi : Int} {offs : Array Int} {pc : Nat} {ls : zL} {st : List zV} {h : zH} {w : zR ⊕ zS} (e : ztab d lo hi offs pc ls st h = some w) : zTh w = h := by
  unfold ztab at e
  split at e
  · split at e
    · exact th_go e
    · obtain ⟨v, -, e⟩ := Option.bind_eq_some_iff.mp e
      exact th_go e
  · cases e
theorem th_look {d : Int} {ps : Array (Int × Int)} {pc : Nat} {ls : zL} {st : List zV} {h : zH} {w : zR ⊕ zS} (e : zlook d ps pc ls st h = some w) : zTh w = h := by
  unfold zlook at e
  split at e
  · exact th_go e
  · cases e
theorem th_get {o : zO} {pc : Nat} {ls : zL} {st : List zV} {h : zH} {w : zR ⊕ zS} (e : zget o pc ls st h = some w) : zTh w = h := by
  unfold zget at e
  split at e
  · obtain ⟨v, -, e⟩ := Option.bind_eq_some_iff.mp e
    split at e
    · exact th_go e
    · exact th_go e
  · cases e
theorem th_ald {pc : Nat} {ls : zL} {st : List zV} {h : zH} {w : zR ⊕ zS} (e : zald pc ls st h = some w) : zTh w = h := by
  unfold zald at e
  split at e
  · split at e
    · obtain ⟨v, -, e⟩ := Option.bind_eq_some_iff.mp e
      exact th_go e
    · cases e
  · cases e
theorem th_aald {pc : Nat} {ls : zL} {st : List zV} {h : zH} {w : zR ⊕ zS} (e : zaald pc ls st h = some w) : zTh w = h := by
  unfold zaald at e
  split at e
  · split at e
    · obtain ⟨v, -, e⟩ := Option.bind_eq_some_iff.mp e
      exact th_go e
    · cases e
  · cases e
theorem th_alen {pc : Nat} {ls : zL} {st : List zV} {h : zH} {w : zR ⊕ zS} (e : zalen pc ls st h = some w) : zTh w = h := by
  unfold zalen at e
  split at e
  · split at e
    · exact th_go e
    · cases e
  · cases e
theorem th_inst {o : zO} {pc : Nat} {ls : zL} {st : List zV} {h : zH} {w : zR ⊕ zS} (e : zinst o pc ls st h = some w) : zTh w = h := by
  unfold zinst at e
  split at e
  · obtain ⟨v, -, e⟩ := Option.bind_eq_some_iff.mp e
    exact th_go e
  · cases e
theorem th_max {pc : Nat} {ls : zL} {st : List zV} {h : zH} {w : zR ⊕ zS} (e : zmax pc ls st h = some w) : zTh w = h := by
  unfold zmax at e
  split at e
  · split at e
    · exact th_go e
    · cases e
  · cases e
theorem th_min {pc : Nat} {ls : zL} {st : List zV} {h : zH} {w : zR ⊕ zS} (e : zmin pc ls st h = some w) : zTh w = h := by
  unfold zmin at e
  split at e
  · split at e
    · exact th_go e
    · cases e
  · cases e
theorem th_ret {o : zO} {st : List zV} {h : zH} {w : zR ⊕ zS} (e : zret o st h = some w) : zTh w = h := by
  unfold zret at e
  split at e
  · split at e
    · cases e
    · cases e; rfl
  · cases e; rfl
  · cases e; rfl
  · cases e; rfl
  · cases e
theorem Sc_w {L : Nat} {xs : Nat → Int32} {h : zH} (s : Sc L xs h) {a j : Nat} {v : Int32} (ha : ¬ (zk h a).1 = 16) : Sc L xs (zwI h a j v) := by
  have a0 : ¬ 0 = a := fun z => by
    subst z
    rw [s.2.1] at ha
    exact ha rfl
  refine ⟨s.1, s.2.1, fun k => ?_⟩
  rw [zi_wI, if_neg (fun z => a0 z.1)]
  exact s.2.2 k
theorem Sc_N {L : Nat} {xs : Nat → Int32} {h : zH} (s : Sc L xs h) {t n N : Nat} : Sc L xs (zN h t n N) := by
  have a0 : ¬ 0 = zn h := by have := s.1; omega
  refine ⟨Nat.succ_pos _, by rw [zk_N, if_neg a0]; exact s.2.1, fun k => ?_⟩
  rw [zi_N, if_neg a0]
  exact s.2.2 k
theorem zfind_no : ∀ {tb : List (Nat × Nat × Nat × String × String)}, tb.all (fun q => decide (¬ q.1 = 16)) = true → zfind tb 16 = none
  | [], _ => rfl
  | q :: l, h => by
    rw [List.all_cons, Bool.and_eq_true] at h
    rw [zfind, if_neg (of_decide_eq_true h.1)]
    exact zfind_no h.2
/-- what no step breaks -/
def Clo (Q : zH → Prop) : Prop := (∀ h a j v, ¬ (zk h a).1 = 16 → Q h → Q (zwI h a j v)) ∧ (∀ h a j r, Q h → Q (zwR h a j r)) ∧ (∀ h t n N, Q h → Q (zN h t n N)) ∧ ∀ h a sp b dp n, ¬ (zk h b).1 = 16 → Q h → Q (zwC h a sp b dp n)
theorem sc_stp {Q : zH → Prop} (hQ : Clo Q) {cal : Nat → List zV → zH → Option zR} (hc : ∀ mid as h r, cal mid as h = some r → Q h → Q r.2) {o : zO} (ho : zpf o = true) {x : zS} (s : Q x.2.2.2) {w : zR ⊕ zS} (e : zstp cal o x = some w) : Q (zTh w) := by
  obtain ⟨i, len, k, tb⟩ := o
  obtain ⟨pc, ls, st, h⟩ := x
  have s' : Q h := s
  have same : zTh w = h → Q (zTh w) := fun z => by rw [z]; exact s'
  have bk : ∀ {pc : Nat} {ls : zL} {r : List zV} {q : Option zR}, (∀ z, q = some z → Q z.2) → zback pc ls r q = some w → Q (zTh w) := fun {pc ls r q} hq e => by
    obtain ⟨v, h1, e⟩ := Option.bind_eq_some_iff.mp e
    rw [th_go e]
    exact hq v h1
  unfold zstp at e
  split at e
  all_goals first
    | exact same (th_push e)
    | exact same (th_load e)
    | exact same (th_store e)
    | exact same (th_inc e)
    | exact same (th_op2 e)
    | exact same (th_op1 e)
    | exact same (th_op2l e)
    | exact same (th_lcmp e)
    | exact same (th_dup e)
    | exact same (th_dup2 e)
    | exact same (th_pop e)
    | exact same (th_jump e)
    | exact same (th_jump2 e)
    | exact same (th_jumpN e)
    | exact same (th_go e)
    | exact same (th_tab e)
    | exact same (th_look e)
    | exact same (th_get e)
    | exact same (th_ald e)
    | exact same (th_aald e)
    | exact same (th_alen e)
    | exact same (th_inst e)
    | exact same (th_ret e)
    | skip
  · rename_i n hi
    dsimp only at hi
    subst hi
    have ho' : tb.all (fun q => decide (¬ q.1 = 16)) = true := ho
    unfold zput at e
    split at e
    · obtain ⟨v, h1, e⟩ := Option.bind_eq_some_iff.mp e
      dsimp only at e h1
      split at e
      · rw [th_go e]
        refine hQ.1 _ _ _ _ (fun z => ?_) s'
        rw [z, zfind_no ho'] at h1
        cases h1
      · cases e
    · obtain ⟨v, h1, e⟩ := Option.bind_eq_some_iff.mp e
      dsimp only at e
      split at e
      · rw [th_go e]
        exact hQ.2.1 _ _ _ _ s'
      · cases e
    · cases e
  · unfold zast at e
    split at e
    · split at e
      · rename_i hk
        obtain ⟨v, h1, e⟩ := Option.bind_eq_some_iff.mp e
        rw [th_go e]
        exact hQ.1 _ _ _ _ (by rw [hk]; decide) s'
      · cases e
    · cases e
  · unfold zaast at e
    split at e
    · split at e
      · obtain ⟨v, h1, e⟩ := Option.bind_eq_some_iff.mp e
        rw [th_go e]
        exact hQ.2.1 _ _ _ _ s'
      · cases e
    · cases e
  · unfold znew at e
    split at e
    · rw [th_go e]
      exact hQ.2.2.1 _ _ _ _ s'
    · cases e
  · unfold znewa at e
    split at e
    · split at e
      · cases e
      · rw [th_go e]
        exact hQ.2.2.1 _ _ _ _ s'
    · cases e
  · unfold znewa at e
    split at e
    · split at e
      · cases e
      · rw [th_go e]
        exact hQ.2.2.1 _ _ _ _ s'
    · cases e
  · split at e
    · unfold zcopy at e
      split at e
      · split at e
        · rename_i hq
          rw [th_go e]
          exact hQ.2.2.2 _ _ _ _ _ _ (by rw [hq.2.1]; decide) s'
        · cases e
      · cases e
    · split at e
      · exact same (th_max e)
      · split at e
        · exact same (th_min e)
        · unfold zcallS at e
          split at e
          · split at e
            · exact bk (fun z hz => hc _ _ _ _ hz s') e
            · cases e
          · cases e
  · unfold zcallV at e
    split at e
    · split at e
      · obtain ⟨v, h1, e⟩ := Option.bind_eq_some_iff.mp e
        exact bk (fun z hz => hc _ _ _ _ hz s') e
      · cases e
    · cases e
  · unfold zcallI at e
    split at e
    · split at e
      · split at e
        · exact same (th_go e)
        · cases e
      · cases e
    · split at e
      · split at e
        · exact bk (fun z hz => hc _ _ _ _ hz s') e
        · cases e
      · cases e
  · cases e
theorem sc_ex {Q : zH → Prop} (hQ : Clo Q) {cal : Nat → List zV → zH → Option zR} (hc : ∀ mid as h r, cal mid as h = some r → Q h → Q r.2) {cd : Nat → Option zO} (ho : ∀ pc o, cd pc = some o → zpf o = true) : ∀ (n : Nat) (x : zS) (r : zR), zex cal cd n x = some r → Q x.2.2.2 → Q r.2 := by
  intro n
  induction n with
  | zero => intro x r e _; simp [zex] at e
  | succ n ih =>
    intro x r e s
    simp only [zex] at e
    cases hs : (cd x.1).bind fun o => zstp cal o x with
    | none => rw [hs] at e; cases e
    | some w =>
      rw [hs] at e
      obtain ⟨o, h1, h2⟩ := Option.bind_eq_some_iff.mp hs
      have := sc_stp hQ hc (ho _ o h1) s h2
      cases w with
      | inl q => cases e; exact this
      | inr y => exact ih y r e this
theorem zpf_all : zMl.all (fun q => q.2.2.2.2.2.all (fun e => zpf e.2)) = true := by decide +kernel
theorem zpf_M {mid pc : Nat} {o : zO} (h : (zP zM mid).2 pc = some o) : zpf o = true := by
  have hm := zlk_mem (tab := (zM mid).2.2.2.2.2) h
  unfold zM at hm
  rw [List.getD_eq_getElem?_getD] at hm
  cases hq : zMl[mid]? with
  | none =>
    rw [hq] at hm
    simp at hm
  | some q =>
    rw [hq] at hm
    have h1 := List.all_eq_true.mp zpf_all q (List.mem_of_getElem? hq)
    exact List.all_eq_true.mp h1 _ hm
theorem sc_call {Q : zH → Prop} (hQ : Clo Q) : ∀ (d mid : Nat) (as : List zV) (h : zH) (r : zR), zcall (zP zM) d mid as h = some r → Q h → Q r.2 := by
  intro d
  induction d with
  | zero => intro mid as h r e; simp [zcall] at e
  | succ d ih =>
    intro mid as h r e s
    rw [zcall_succ] at e
    split at e
    · obtain ⟨n, hn⟩ := zx_iff.mp e
      exact sc_ex hQ (fun mid as h r => ih mid as h r) (fun pc o => zpf_M) n _ r hn s
    · cases e
theorem Clo_Sc {L : Nat} {xs : Nat → Int32} : Clo (Sc L xs) := by
  refine ⟨fun h a j v ha s => Sc_w s ha, fun h a j r s => ⟨s.1, s.2.1, s.2.2⟩, fun h t n N s => Sc_N s, fun h a sp b dp n hb s => ⟨s.1, s.2.1, fun j => ?_⟩⟩
  rw [zi_wC, if_neg]
  · exact s.2.2 j
  · rintro ⟨z, -⟩
    rw [← z, s.2.1] at hb
    exact hb rfl
/-- the reference stays where it is -/
def Rf (h : zH) : Prop := 37 < zn h ∧ zk h 37 = (11, 0)
theorem Clo_Rf : Clo Rf := by
  refine ⟨fun h a j v _ s => s, fun h a j r s => s, fun h t n N s => ⟨Nat.lt_succ_of_lt s.1, ?_⟩, fun h a sp b dp n _ s => s⟩
  rw [zk_N, if_neg (by have := s.1; omega)]
  exact s.2
/-- which methods answer ints, which longs -/
def zri (o : zO) : Bool := match o.1 with
  | .lreturn => false
  | .areturn => false
  | .return_ => false
  | _ => true
def zrl (o : zO) : Bool := match o.1 with
  | .ireturn => false
  | .areturn => false
  | .return_ => false
  | _ => true
theorem ex_int {cal : Nat → List zV → zH → Option zR} {cd : Nat → Option zO} (ho : ∀ pc o, cd pc = some o → zri o = true) : ∀ (n : Nat) (x : zS) (r : zR), zex cal cd n x = some r → ∃ v, r.1 = some (.inl v) := by
  intro n
  induction n with
  | zero => intro x r e; simp [zex] at e
  | succ n ih =>
    intro x r e
    simp only [zex] at e
    cases hs : (cd x.1).bind fun o => zstp cal o x with
    | none => rw [hs] at e; cases e
    | some w =>
      rw [hs] at e
      obtain ⟨o, h1, h2⟩ := Option.bind_eq_some_iff.mp hs
      cases w with
      | inl q =>
        cases e
        have h3 := zm_end h2
        have h4 := ho _ o h1
        unfold zri at h4
        unfold zret at h3
        split at h3
        · split at h3
          · cases h3
          · cases h3; exact ⟨_, rfl⟩
        · rename_i hq hq2
          rw [hq] at h4
          cases h4
        · rename_i hq hq2
          rw [hq] at h4
          cases h4
        · rename_i hq hq2
          rw [hq] at h4
          cases h4
        · cases h3
      | inr y => exact ih y r e
theorem ex_long {cal : Nat → List zV → zH → Option zR} {cd : Nat → Option zO} (ho : ∀ pc o, cd pc = some o → zrl o = true) : ∀ (n : Nat) (x : zS) (r : zR), zex cal cd n x = some r → ∃ v, r.1 = some (.inr (.inl v)) := by
  intro n
  induction n with
  | zero => intro x r e; simp [zex] at e
  | succ n ih =>
    intro x r e
    simp only [zex] at e
    cases hs : (cd x.1).bind fun o => zstp cal o x with
    | none => rw [hs] at e; cases e
    | some w =>
      rw [hs] at e
      obtain ⟨o, h1, h2⟩ := Option.bind_eq_some_iff.mp hs
      cases w with
      | inl q =>
        cases e
        have h3 := zm_end h2
        have h4 := ho _ o h1
        unfold zrl at h4
        unfold zret at h3
        split at h3
        · rename_i hq hq2
          rw [hq] at h4
          cases h4
        · cases h3; exact ⟨_, rfl⟩
        · rename_i hq hq2
          rw [hq] at h4
          cases h4
        · rename_i hq hq2
          rw [hq] at h4
          cases h4
        · cases h3
      | inr y => exact ih y r e
theorem call_int {d mid : Nat} {as : List zV} {h : zH} {q : Option zV} {h' : zH} (hm : (zM mid).2.2.2.2.2.all (fun e => zri e.2) = true) (e : zcall (zP zM) d mid as h = some (q, h')) : ∃ v, q = some (.inl v) := by
  cases d with
  | zero => simp [zcall] at e
  | succ d =>
    rw [zcall_succ] at e
    split at e
    · obtain ⟨n, hn⟩ := zx_iff.mp e
      exact ex_int (fun pc o ho => List.all_eq_true.mp hm _ (zlk_mem (tab := (zM mid).2.2.2.2.2) ho)) n _ _ hn
    · cases e
theorem call_long {d mid : Nat} {as : List zV} {h : zH} {q : Option zV} {h' : zH} (hm : (zM mid).2.2.2.2.2.all (fun e => zrl e.2) = true) (e : zcall (zP zM) d mid as h = some (q, h')) : ∃ v, q = some (.inr (.inl v)) := by
  cases d with
  | zero => simp [zcall] at e
  | succ d =>
    rw [zcall_succ] at e
    split at e
    · obtain ⟨n, hn⟩ := zx_iff.mp e
      exact ex_long (fun pc o ho => List.all_eq_true.mp hm _ (zlk_mem (tab := (zM mid).2.2.2.2.2) ho)) n _ _ hn
    · cases e
