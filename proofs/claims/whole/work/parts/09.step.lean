/-! a step is sound, a run is sound -/
theorem zm_bind {α : Type} {q : Option α} {f : α → zT} {y : zS} (hs : q.bind f = some (.inr y)) : ∃ v, q = some v ∧ f v = some (.inr y) := by
  cases q with
  | none => cases hs
  | some v => exact ⟨v, rfl, hs⟩
theorem zm_go {pc : Nat} {ls : zL} {st : List zV} {h : zH} {y : zS} (hs : zgo pc ls st h = some (.inr y)) : y = (pc, ls, st, h) := by
  simp only [zgo, Option.some.injEq, Sum.inr.injEq] at hs
  exact hs.symm
section ZMONO
variable {cal : Nat → List zV → zH → Option zR} {pc : Nat} {ls : zL} {st : List zV} {h : zH} {y : zS} {o : zO}
theorem zm_op2 {f : Int32 → Int32 → Option Int32} (hs : zop2 f pc ls st h = some (.inr y)) : y.2.2.2 = h := by
  unfold zop2 at hs
  split at hs
  · obtain ⟨v, -, h1⟩ := zm_bind hs
    rw [zm_go h1]
  · cases hs
theorem zm_op2l {f : Int64 → Int64 → Option Int64} (hs : zop2l f pc ls st h = some (.inr y)) : y.2.2.2 = h := by
  unfold zop2l at hs
  split at hs
  · obtain ⟨v, -, h1⟩ := zm_bind hs
    rw [zm_go h1]
  · cases hs
theorem zm_op1 {f : Int32 → zV} (hs : zop1 f pc ls st h = some (.inr y)) : y.2.2.2 = h := by
  unfold zop1 at hs
  split at hs
  · rw [zm_go hs]
  · cases hs
theorem zm_push {k : Nat} {v : zV} (hs : zpush k pc ls st h v = some (.inr y)) : y.2.2.2 = h := by
  simp only [zpush, Option.some.injEq, Sum.inr.injEq] at hs
  rw [← hs]
theorem zm_load {w k i : Nat} (hs : zload w k i pc ls st h = some (.inr y)) : y.2.2.2 = h := by
  unfold zload at hs
  split at hs
  · exact zm_push hs
  · exact zm_push hs
  · exact zm_push hs
  · cases hs
theorem zm_store {w k i : Nat} (hs : zstore w k i pc ls st h = some (.inr y)) : y.2.2.2 = h := by
  unfold zstore at hs
  split at hs
  · split at hs
    · rw [zm_go hs]
    · cases hs
  · split at hs
    · rw [zm_go hs]
    · cases hs
  · split at hs
    · rw [zm_go hs]
    · cases hs
  · cases hs
theorem zm_jump {c : ClassFile.Cond} {off : Int} (hs : zjump c off pc ls st h = some (.inr y)) : y.2.2.2 = h := by
  unfold zjump at hs
  split at hs
  · split at hs <;> rw [zm_go hs]
  · cases hs
theorem zm_jump2 {c : ClassFile.Cond} {off : Int} (hs : zjump2 c off pc ls st h = some (.inr y)) : y.2.2.2 = h := by
  unfold zjump2 at hs
  split at hs
  · split at hs <;> rw [zm_go hs]
  · cases hs
theorem zm_jumpN {z : Bool} {off : Int} (hs : zjumpN z off pc ls st h = some (.inr y)) : y.2.2.2 = h := by
  unfold zjumpN at hs
  split at hs
  · split at hs <;> rw [zm_go hs]
  · cases hs
theorem zm_back {r : List zV} {q : Option zR} (hq : ∀ v, q = some v → zn h ≤ zn v.2 ∧ zu h ≤ zu v.2) (hs : zback pc ls r q = some (.inr y)) : zn h ≤ zn y.2.2.2 ∧ zu h ≤ zu y.2.2.2 := by
  unfold zback at hs
  obtain ⟨v, h1, h2⟩ := zm_bind hs
  rw [zm_go h2]
  exact hq v h1
theorem zm_callS (hc : ∀ mid as h r, cal mid as h = some r → zn h ≤ zn r.2 ∧ zu h ≤ zu r.2) (hs : zcallS cal o pc ls st h = some (.inr y)) : zn h ≤ zn y.2.2.2 ∧ zu h ≤ zu y.2.2.2 := by
  unfold zcallS at hs
  split at hs
  · split at hs
    · exact zm_back (fun v hv => hc _ _ _ _ hv) hs
    · cases hs
  · cases hs
theorem zm_callV (hc : ∀ mid as h r, cal mid as h = some r → zn h ≤ zn r.2 ∧ zu h ≤ zu r.2) (hs : zcallV cal o pc ls st h = some (.inr y)) : zn h ≤ zn y.2.2.2 ∧ zu h ≤ zu y.2.2.2 := by
  unfold zcallV at hs
  split at hs
  · split at hs
    · obtain ⟨mid, -, h1⟩ := zm_bind hs
      exact zm_back (fun v hv => hc _ _ _ _ hv) h1
    · cases hs
  · cases hs
theorem zm_callI (hc : ∀ mid as h r, cal mid as h = some r → zn h ≤ zn r.2 ∧ zu h ≤ zu r.2) (hs : zcallI cal o pc ls st h = some (.inr y)) : zn h ≤ zn y.2.2.2 ∧ zu h ≤ zu y.2.2.2 := by
  unfold zcallI at hs
  split at hs
  · split at hs
    · split at hs
      · rw [zm_go hs]
        exact ⟨Nat.le_refl _, Nat.le_refl _⟩
      · cases hs
    · cases hs
  · split at hs
    · split at hs
      · exact zm_back (fun v hv => hc _ _ _ _ hv) hs
      · cases hs
    · cases hs
theorem zm_same {k : zH} (e : k = h) : zn h ≤ zn k ∧ zu h ≤ zu k := by rw [e]; exact ⟨Nat.le_refl _, Nat.le_refl _⟩
theorem zm_ret (hs : zret o st h = some (.inr y)) : False := by
  unfold zret at hs
  split at hs
  · split at hs <;> cases hs
  · cases hs
  · cases hs
  · cases hs
  · cases hs
theorem zm_step (hc : ∀ mid as h r, cal mid as h = some r → zn h ≤ zn r.2 ∧ zu h ≤ zu r.2) {x : zS} (hs : zstp cal o x = some (.inr y)) : zn x.2.2.2 ≤ zn y.2.2.2 ∧ zu x.2.2.2 ≤ zu y.2.2.2 := by
  unfold zstp at hs
  split at hs
  all_goals first
    | exact zm_same (zm_push hs)
    | exact zm_same (zm_load hs)
    | exact zm_same (zm_store hs)
    | exact zm_same (zm_op2 hs)
    | exact zm_same (zm_op2l hs)
    | exact zm_same (zm_op1 hs)
    | exact zm_same (zm_jump hs)
    | exact zm_same (zm_jump2 hs)
    | exact zm_same (zm_jumpN hs)
    | exact zm_callV hc hs
    | exact zm_callI hc hs
    | exact (zm_ret hs).elim
    | (rw [zm_go hs]; exact ⟨Nat.le_refl _, Nat.le_refl _⟩)
    | skip
  · unfold zinc at hs
    split at hs
    · split at hs
      · rw [zm_go hs]; exact ⟨Nat.le_refl _, Nat.le_refl _⟩
      · cases hs
    · cases hs
  · unfold zlcmp at hs
    split at hs
    · rw [zm_go hs]; exact ⟨Nat.le_refl _, Nat.le_refl _⟩
    · cases hs
  · unfold zdup at hs
    split at hs
    · split at hs
      · rw [zm_go hs]; exact ⟨Nat.le_refl _, Nat.le_refl _⟩
      · cases hs
    · cases hs
  · unfold zdup2 at hs
    split at hs
    · split at hs
      · rw [zm_go hs]; exact ⟨Nat.le_refl _, Nat.le_refl _⟩
      · cases hs
    · cases hs
  · unfold zpop at hs
    split at hs
    · split at hs
      · rw [zm_go hs]; exact ⟨Nat.le_refl _, Nat.le_refl _⟩
      · cases hs
    · cases hs
  · unfold ztab at hs
    split at hs
    · split at hs
      · rw [zm_go hs]; exact ⟨Nat.le_refl _, Nat.le_refl _⟩
      · obtain ⟨v, -, h1⟩ := zm_bind hs
        rw [zm_go h1]; exact ⟨Nat.le_refl _, Nat.le_refl _⟩
    · cases hs
  · unfold zlook at hs
    split at hs
    · rw [zm_go hs]; exact ⟨Nat.le_refl _, Nat.le_refl _⟩
    · cases hs
  · unfold zget at hs
    split at hs
    · obtain ⟨v, -, h1⟩ := zm_bind hs
      split at h1 <;> (rw [zm_go h1]; exact ⟨Nat.le_refl _, Nat.le_refl _⟩)
    · cases hs
  · unfold zput at hs
    split at hs
    · obtain ⟨v, -, h1⟩ := zm_bind hs
      split at h1
      · rw [zm_go h1]; exact ⟨Nat.le_refl _, Nat.le_refl _⟩
      · cases h1
    · obtain ⟨v, -, h1⟩ := zm_bind hs
      split at h1
      · rw [zm_go h1]; exact ⟨Nat.le_refl _, Nat.le_refl _⟩
      · cases h1
    · cases hs
  · unfold zald at hs
    split at hs
    · split at hs
      · obtain ⟨v, -, h1⟩ := zm_bind hs
        rw [zm_go h1]; exact ⟨Nat.le_refl _, Nat.le_refl _⟩
      · cases hs
    · cases hs
  · unfold zast at hs
    split at hs
    · split at hs
      · obtain ⟨v, -, h1⟩ := zm_bind hs
        rw [zm_go h1]; exact ⟨Nat.le_refl _, Nat.le_refl _⟩
      · cases hs
    · cases hs
  · unfold zaald at hs
    split at hs
    · split at hs
      · obtain ⟨v, -, h1⟩ := zm_bind hs
        rw [zm_go h1]; exact ⟨Nat.le_refl _, Nat.le_refl _⟩
      · cases hs
    · cases hs
  · unfold zaast at hs
    split at hs
    · split at hs
      · obtain ⟨v, -, h1⟩ := zm_bind hs
        rw [zm_go h1]; exact ⟨Nat.le_refl _, Nat.le_refl _⟩
      · cases hs
    · cases hs
  · unfold zalen at hs
    split at hs
    · split at hs
      · rw [zm_go hs]; exact ⟨Nat.le_refl _, Nat.le_refl _⟩
      · cases hs
    · cases hs
  · unfold znew at hs
    split at hs
    · rw [zm_go hs]; exact ⟨Nat.le_succ _, Nat.le_add_right _ _⟩
    · cases hs
  · unfold znewa at hs
    split at hs
    · split at hs
      · cases hs
      · rw [zm_go hs]; exact ⟨Nat.le_succ _, Nat.le_add_right _ _⟩
    · cases hs
  · unfold znewa at hs
    split at hs
    · split at hs
      · cases hs
      · rw [zm_go hs]; exact ⟨Nat.le_succ _, Nat.le_add_right _ _⟩
    · cases hs
  · unfold zinst at hs
    split at hs
    · obtain ⟨v, -, h1⟩ := zm_bind hs
      rw [zm_go h1]; exact ⟨Nat.le_refl _, Nat.le_refl _⟩
    · cases hs
  · split at hs
    · unfold zcopy at hs
      split at hs
      · split at hs
        · rw [zm_go hs]; exact ⟨Nat.le_refl _, Nat.le_refl _⟩
        · cases hs
      · cases hs
    · split at hs
      · unfold zmax at hs
        split at hs
        · split at hs
          · rw [zm_go hs]; exact ⟨Nat.le_refl _, Nat.le_refl _⟩
          · cases hs
        · cases hs
      · split at hs
        · unfold zmin at hs
          split at hs
          · split at hs
            · rw [zm_go hs]; exact ⟨Nat.le_refl _, Nat.le_refl _⟩
            · cases hs
          · cases hs
        · exact zm_callS hc hs
  · cases hs
end ZMONO
theorem zl_bind {α : Type} {q : Option α} {f : α → zT} {r : zR} (hs : q.bind f = some (.inl r)) : ∃ v, f v = some (.inl r) := by
  cases q with
  | none => cases hs
  | some v => exact ⟨v, hs⟩
theorem zl_go {pc : Nat} {ls : zL} {st : List zV} {h : zH} {r : zR} (hs : zgo pc ls st h = some (.inl r)) : False := by
  simp [zgo] at hs
theorem zm_end {cal : Nat → List zV → zH → Option zR} {o : zO} {x : zS} {r : zR} (hs : zstp cal o x = some (.inl r)) : zret o x.2.2.1 x.2.2.2 = some (.inl r) := by
  unfold zstp at hs
  split at hs
  all_goals first
    | exact hs
    | exact (zl_go hs).elim
    | (exfalso; unfold zpush at hs; cases hs; done)
    | (exfalso; unfold zload at hs; split at hs <;> first | (unfold zpush at hs; cases hs; done) | cases hs; done)
    | (exfalso; unfold zstore at hs; split at hs <;> first | (split at hs <;> first | exact zl_go hs | cases hs) | cases hs)
    | (exfalso; unfold zop2 at hs; split at hs <;> first | (obtain ⟨_, h1⟩ := zl_bind hs; exact zl_go h1) | cases hs)
    | (exfalso; unfold zop2l at hs; split at hs <;> first | (obtain ⟨_, h1⟩ := zl_bind hs; exact zl_go h1) | cases hs)
    | (exfalso; unfold zop1 at hs; split at hs <;> first | exact zl_go hs | cases hs)
    | (exfalso; unfold zjump at hs; split at hs <;> first | (split at hs <;> exact zl_go hs) | cases hs)
    | (exfalso; unfold zjump2 at hs; split at hs <;> first | (split at hs <;> exact zl_go hs) | cases hs)
    | (exfalso; unfold zjumpN at hs; split at hs <;> first | (split at hs <;> exact zl_go hs) | cases hs)
    | (exfalso; unfold zinc at hs; split at hs <;> first | (split at hs <;> first | exact zl_go hs | cases hs) | cases hs)
    | (exfalso; unfold zlcmp at hs; split at hs <;> first | exact zl_go hs | cases hs)
    | (exfalso; unfold zdup at hs; split at hs <;> first | (split at hs <;> first | exact zl_go hs | cases hs) | cases hs)
    | (exfalso; unfold zdup2 at hs; split at hs <;> first | (split at hs <;> first | exact zl_go hs | cases hs) | cases hs)
    | (exfalso; unfold zpop at hs; split at hs <;> first | (split at hs <;> first | exact zl_go hs | cases hs) | cases hs)
    | (exfalso; unfold ztab at hs; split at hs <;> first | (split at hs <;> first | exact zl_go hs | (obtain ⟨_, h1⟩ := zl_bind hs; exact zl_go h1)) | cases hs)
    | (exfalso; unfold zlook at hs; split at hs <;> first | exact zl_go hs | cases hs)
    | (exfalso; unfold zget at hs; split at hs <;> first | (obtain ⟨_, h1⟩ := zl_bind hs; split at h1 <;> exact zl_go h1) | cases hs)
    | (exfalso; unfold zput at hs; split at hs <;> first | (obtain ⟨_, h1⟩ := zl_bind hs; split at h1 <;> first | exact zl_go h1 | cases h1) | cases hs)
    | (exfalso; unfold zald at hs; split at hs <;> first | (split at hs <;> first | (obtain ⟨_, h1⟩ := zl_bind hs; exact zl_go h1) | cases hs) | cases hs)
    | (exfalso; unfold zast at hs; split at hs <;> first | (split at hs <;> first | (obtain ⟨_, h1⟩ := zl_bind hs; exact zl_go h1) | cases hs) | cases hs)
    | (exfalso; unfold zaald at hs; split at hs <;> first | (split at hs <;> first | (obtain ⟨_, h1⟩ := zl_bind hs; exact zl_go h1) | cases hs) | cases hs)
    | (exfalso; unfold zaast at hs; split at hs <;> first | (split at hs <;> first | (obtain ⟨_, h1⟩ := zl_bind hs; exact zl_go h1) | cases hs) | cases hs)
    | (exfalso; unfold zalen at hs; split at hs <;> first | (split at hs <;> first | exact zl_go hs | cases hs) | cases hs)
    | (exfalso; unfold znew at hs; split at hs <;> first | exact zl_go hs | cases hs)
    | (exfalso; unfold znewa at hs; split at hs <;> first | (split at hs <;> first | exact zl_go hs | cases hs) | cases hs)
    | (exfalso; unfold zinst at hs; split at hs <;> first | (obtain ⟨_, h1⟩ := zl_bind hs; exact zl_go h1) | cases hs)
    | (exfalso; unfold zcallV zback at hs; split at hs <;> first | (split at hs <;> first | (obtain ⟨_, h1⟩ := zl_bind hs; obtain ⟨_, h2⟩ := zl_bind h1; exact zl_go h2) | cases hs) | cases hs)
    | (exfalso; unfold zcallI zback at hs; split at hs <;> (split at hs <;> first | (split at hs <;> first | exact zl_go hs | (obtain ⟨_, h1⟩ := zl_bind hs; exact zl_go h1) | cases hs) | cases hs))
    | (exfalso; split at hs; (unfold zcopy at hs; split at hs <;> first | (split at hs <;> first | exact zl_go hs | cases hs) | cases hs); split at hs; (unfold zmax at hs; split at hs <;> first | (split at hs <;> first | exact zl_go hs | cases hs) | cases hs); split at hs; (unfold zmin at hs; split at hs <;> first | (split at hs <;> first | exact zl_go hs | cases hs) | cases hs); (unfold zcallS zback at hs; split at hs <;> first | (split at hs <;> first | (obtain ⟨_, h1⟩ := zl_bind hs; exact zl_go h1) | cases hs) | cases hs))
    | cases hs
theorem zlook_in : ∀ (ps : List (Int × Int)) (d z : Int), Op.lookupswitch.offset ps d z = d ∨ ∃ q ∈ ps, Op.lookupswitch.offset ps d z = q.2
  | [], d, z => Or.inl (by simp [Op.lookupswitch.offset])
  | (a, o) :: r, d, z => by
    rw [Op.lookupswitch.offset_cons]
    split
    · exact Or.inr ⟨(a, o), List.mem_cons_self, rfl⟩
    · rcases zlook_in r d z with h | ⟨q, h1, h2⟩
      · exact Or.inl h
      · exact Or.inr ⟨q, List.mem_cons_of_mem _ h1, h2⟩
section ZSTEP
variable {p : Program} {l : Launch} {e : Env} {R : Room} {s : State} {m : MethodId} {args : Array Value} {below : List Frame} {meth : Method} {c : Code} {Q : State → Prop} {cc : ByteArray} {own nm : String} {nL b B L n0 u0 d : Nat} {xs : Nat → Int32} {dC : Nat → ClassId} {dI : Nat → Nat → Nat} {cA : Nat → ClassId} {M : Nat → zQ}
variable {pc : Nat} {ls : zL} {st : List zV} {h : zH} {y : zS}
set_option maxHeartbeats 4000000 in
theorem zs_step (C : zCx p s m args meth c cc own nm nL b B L xs dC dI cA) (hok : ∀ mid, zMok M mid) (hM : zMet M l b B L xs dC dI cA d) (hfr : d + 1 ≤ R.frames) (hlo : 40 * d + 40 ≤ R.locals) (hn0 : s.heap.size + 1 = B + n0) (hle : n0 ≤ zn h) (hu : u0 ≤ zu h) {ret : Option FieldType} {tab : List (Nat × zO)} (hT : zTok M own nm cc ret tab) {o : zO} (ho : (pc, o) ∈ tab) (hs : zstp (zcall (zP M) d) o (pc, ls, st, h) = some (.inr y))
    (hc : zn y.2.2.2 - n0 ≤ R.cells) (hsl : zu y.2.2.2 - u0 ≤ R.slots)
    (hW : zWA p l e R s m args below meth c Q b B L xs dC dI cA n0 u0 nL y) : zWA p l e R s m args below meth c Q b B L xs dC dI cA n0 u0 nL (pc, ls, st, h) := by
  obtain ⟨hdg, hw, hwn, heq, hoks⟩ := hT _ ho
  have C0 := C
  obtain ⟨hx, hb, hml, hown, hts, hK, -⟩ := C
  obtain ⟨i, len, k, tb⟩ := o
  dsimp only at hdg hw hwn heq hoks
  unfold zstp at hs
  cases i
  case iconst n => exact zs_push hs (fun H locs la ce sl r K => lv_iconst hx hb hdg rfl K) hW
  case bipush n => exact zs_push hs (fun H locs la ce sl r K => lv_bipush hx hb hdg rfl K) hW
  case sipush n => exact zs_push hs (fun H locs la ce sl r K => lv_sipush hx hb hdg rfl K) hW
  case lconst n => exact zs_push hs (fun H locs la ce sl r K => lv_lconst hx hb hdg rfl K) hW
  case ldc n => exact zs_push hs (fun H locs la ce sl r K => lv_ldc hx hb hown (hts _ (hw _ (List.mem_singleton.mpr rfl))) hdg K) hW
  case ldc_w n => exact zs_push hs (fun H locs la ce sl r K => lv_ldcw hx hb hown (hts _ (hw _ (List.mem_singleton.mpr rfl))) hdg K) hW
  case ldc2_w n => exact zs_push hs (fun H locs la ce sl r K => lv_ldc2 hx hb hown (hts _ (hw _ (List.mem_singleton.mpr rfl))) hdg K) hW
  case aconst_null => exact zs_push hs (fun H locs la ce sl r K => lv_null hx hb hdg K) hW
  case iload_n n => exact zs_load hs (fun _ v H locs la ce sl r hl K => lv_iload_n hx hb hdg rfl hl K) (fun z => absurd z (by decide)) (fun z => absurd z (by decide)) hW
  case iload n => exact zs_load hs (fun _ v H locs la ce sl r hl K => lv_iload hx hb hdg hl K) (fun z => absurd z (by decide)) (fun z => absurd z (by decide)) hW
  case lload_n n => exact zs_load hs (fun z => absurd z (by decide)) (fun _ v H locs la ce sl r hl K => lv_lload_n hx hb hdg rfl hl K) (fun z => absurd z (by decide)) hW
  case lload n => exact zs_load hs (fun z => absurd z (by decide)) (fun _ v H locs la ce sl r hl K => lv_lload hx hb hdg hl K) (fun z => absurd z (by decide)) hW
  case aload_n n => exact zs_load hs (fun z => absurd z (by decide)) (fun z => absurd z (by decide)) (fun _ v H locs la ce sl r hl K => by
    cases v with
    | none => exact lv_aload_nN hx hb hdg rfl hl K
    | some v => exact lv_aload_n hx hb hdg rfl hl K) hW
  case aload n => exact zs_load hs (fun z => absurd z (by decide)) (fun z => absurd z (by decide)) (fun _ v H locs la ce sl r hl K => by
    cases v with
    | none => exact lv_aloadN hx hb hdg hl K
    | some v => exact lv_aload hx hb hdg hl K) hW
  case istore_n n => exact zs_store hs (fun _ v H locs la ce sl r lv hl hi K => lv_istore_n hx hb hdg rfl hl hi rfl K) (fun z => absurd z (by decide)) (fun z => absurd z (by decide)) hW
  case istore n => exact zs_store hs (fun _ v H locs la ce sl r lv hl hi K => lv_istore hx hb hdg hl hi rfl K) (fun z => absurd z (by decide)) (fun z => absurd z (by decide)) hW
  case lstore_n n => exact zs_store hs (fun z => absurd z (by decide)) (fun _ v H locs la ce sl r lv hl hi K => lv_lstore_n hx hb hdg rfl hl hi rfl K) (fun z => absurd z (by decide)) hW
  case lstore n => exact zs_store hs (fun z => absurd z (by decide)) (fun _ v H locs la ce sl r lv hl hi K => lv_lstore hx hb hdg hl hi rfl K) (fun z => absurd z (by decide)) hW
  case astore_n n => exact zs_store hs (fun z => absurd z (by decide)) (fun z => absurd z (by decide)) (fun _ v H locs la ce sl r lv hl hi K => by
    cases v with
    | none => exact lv_astore_nN hx hb hdg rfl hl hi rfl K
    | some v => exact lv_astore_n hx hb hdg rfl hl hi rfl K) hW
  case astore n => exact zs_store hs (fun z => absurd z (by decide)) (fun z => absurd z (by decide)) (fun _ v H locs la ce sl r lv hl hi K => by
    cases v with
    | none => exact lv_astoreN hx hb hdg hl hi rfl K
    | some v => exact lv_astore hx hb hdg hl hi rfl K) hW
  case iinc i n => exact zs_inc hx hb hdg hs hW
  case iadd => exact zs_op2 hs (fun u v w hf H locs la ce sl r K => by cases hf; exact lv_iadd hx hb hdg K) hW
  case isub => exact zs_op2 hs (fun u v w hf H locs la ce sl r K => by cases hf; exact lv_isub hx hb hdg K) hW
  case imul => exact zs_op2 hs (fun u v w hf H locs la ce sl r K => by cases hf; exact lv_imul hx hb hdg K) hW
  case iand => exact zs_op2 hs (fun u v w hf H locs la ce sl r K => by cases hf; exact lv_iand hx hb hdg K) hW
  case ior => exact zs_op2 hs (fun u v w hf H locs la ce sl r K => by cases hf; exact lv_ior hx hb hdg K) hW
  case ixor => exact zs_op2 hs (fun u v w hf H locs la ce sl r K => by cases hf; exact lv_ixor hx hb hdg K) hW
  case ishl => exact zs_op2 hs (fun u v w hf H locs la ce sl r K => by cases hf; exact lv_ishl hx hb hdg K) hW
  case ishr => exact zs_op2 hs (fun u v w hf H locs la ce sl r K => by cases hf; exact lv_ishr hx hb hdg K) hW
  case iushr => exact zs_op2 hs (fun u v w hf H locs la ce sl r K => by cases hf; exact lv_iushr hx hb hdg rfl K) hW
  case idiv => exact zs_op2 hs (fun u v w hf H locs la ce sl r K => by
    split at hf
    · cases hf
    · rename_i hz
      cases hf
      exact lv_idiv hx hb hdg hz K) hW
  case irem => exact zs_op2 hs (fun u v w hf H locs la ce sl r K => by
    split at hf
    · cases hf
    · rename_i hz
      cases hf
      exact lv_irem hx hb hdg hz K) hW
  case ineg => exact zs_op1 hs (fun u H locs la ce sl r K => lv_ineg hx hb hdg K) hW
  case i2l => exact zs_op1 hs (fun u H locs la ce sl r K => lv_i2l hx hb hdg rfl K) hW
  case i2b => exact zs_op1 hs (fun u H locs la ce sl r K => lv_i2b hx hb hdg rfl K) hW
  case i2s => exact zs_op1 hs (fun u H locs la ce sl r K => lv_i2s hx hb hdg rfl K) hW
  case ladd => exact zs_op2l hs (fun u v w hf H locs la ce sl r K => by cases hf; exact lv_ladd hx hb hdg K) hW
  case lsub => exact zs_op2l hs (fun u v w hf H locs la ce sl r K => by cases hf; exact lv_lsub hx hb hdg K) hW
  case lmul => exact zs_op2l hs (fun u v w hf H locs la ce sl r K => by cases hf; exact lv_lmul hx hb hdg K) hW
  case ldiv => exact zs_op2l hs (fun u v w hf H locs la ce sl r K => by
    split at hf
    · cases hf
    · rename_i hz
      cases hf
      exact lv_ldiv hx hb hdg hz K) hW
  case lrem => exact zs_op2l hs (fun u v w hf H locs la ce sl r K => by
    split at hf
    · cases hf
    · rename_i hz
      cases hf
      exact lv_lrem hx hb hdg hz K) hW
  case lcmp => exact zs_lcmp hx hb hdg hs hW
  case dup => exact zs_dup hx hb hdg hs hW
  case dup2 => exact zs_dup2 hx hb hdg hs hW
  case pop => exact zs_pop hx hb hdg hs hW
  case ifCond cd off => exact zs_jump hx hb hdg (of_decide_eq_true hoks) hs hW
  case if_icmp cd off => exact zs_jump2 hx hb hdg (of_decide_eq_true hoks) hs hW
  case ifnull off => exact zs_null hx hb hdg (of_decide_eq_true hoks) hs hW
  case ifnonnull off => exact zs_nonnull hx hb hdg (of_decide_eq_true hoks) hs hW
  case goto off => exact zs_goto hx hb hdg (of_decide_eq_true hoks) hs hW
  case tableswitch dd lo hi offs =>
    simp only [zoks, Bool.and_eq_true, List.all_eq_true] at hoks
    exact zs_tab hx hb hdg (of_decide_eq_true hoks.1) (fun off h2 => of_decide_eq_true (hoks.2 off (Array.mem_toList_iff.mpr h2))) hs hW
  case lookupswitch dd ps =>
    unfold zoks at hoks
    rw [Bool.and_eq_true, Bool.and_eq_true] at hoks
    obtain ⟨⟨k1, k2⟩, k3⟩ := hoks
    rw [List.all_eq_true] at k3
    refine zs_look hx hb hdg k1 (fun z => ?_) hs hW
    rcases zlook_in ps.toList dd z with q | ⟨q, q1, q2⟩
    · rw [q]
      exact of_decide_eq_true k2
    · rw [q2]
      exact of_decide_eq_true (k3 q q1)
  case getfield n =>
    unfold zoks at hoks
    rw [List.all_eq_true] at hoks
    refine zs_get C0 hdg (fun q hq => ?_) hs hW
    have h1 := hoks q hq
    simp only [Bool.and_eq_true, decide_eq_true_eq, beq_iff_eq] at h1
    have hF : ∀ w ∈ zneedF own n q, w ∈ zGood := fun w hw2 => hw w (List.mem_flatMap.mpr ⟨q, hq, hw2⟩)
    refine ⟨⟨h1.1.1, h1.1.2, zref q, hF _ List.mem_cons_self, ?_⟩, ?_⟩
    · unfold zref
      split
      · exact Or.inl rfl
      · rename_i hz
        refine Or.inr (hF _ (List.mem_cons_of_mem _ ?_))
        rw [if_neg hz]
        exact List.mem_singleton.mpr rfl
    · have h2 := h1.2
      constructor
      · intro h3
        rw [decide_eq_true h3] at h2
        simpa using h2.symm
      · intro h3
        rw [h3] at h2
        simpa using h2
  case putfield n =>
    unfold zoks at hoks
    rw [List.all_eq_true] at hoks
    refine zs_put C0 hn0 hle hdg (fun q hq => ?_) hs hW
    have h1 := hoks q hq
    simp only [Bool.and_eq_true, Bool.or_eq_true, decide_eq_true_eq, beq_iff_eq, Bool.not_eq_true'] at h1
    obtain ⟨⟨⟨⟨⟨t1, t2⟩, t3⟩, t4⟩, t5⟩, t6⟩ := h1
    have hF : ∀ w ∈ zneedF own n q, w ∈ zGood := fun w hw2 => hw w (List.mem_flatMap.mpr ⟨q, hq, hw2⟩)
    refine ⟨⟨t1, t2, zref q, hF _ List.mem_cons_self, ?_⟩, ?_, fun z => t4.resolve_left (fun w => w z), fun z => t5.resolve_left (fun w => w z), fun z => ?_⟩
    · unfold zref
      split
      · exact Or.inl rfl
      · rename_i hz
        refine Or.inr (hF _ (List.mem_cons_of_mem _ ?_))
        rw [if_neg hz]
        exact List.mem_singleton.mpr rfl
    · cases hz : (zF q.1 q.2.1).2.2.2 with
      | false => exact Or.inl rfl
      | true =>
        refine Or.inr ⟨rfl, t3.resolve_left (fun w => by rw [hz] at w; cases w), heq ((zF q.1 q.2.1).1, own) (List.mem_flatMap.mpr ⟨q, hq, ?_⟩)⟩
        rw [if_pos hz]
        exact List.mem_singleton.mpr rfl
    · have h3 := t6.resolve_left (fun w => w z)
      cases hz : zTy q.1 q.2.1 <;> rw [hz] at h3 <;> simp [zokT, zisI] at h3
      · exact Or.inl ⟨_, rfl⟩
      · exact Or.inr ⟨_, rfl⟩
  case iaload => exact zs_ald C0 hdg hs hW
  case iastore => exact zs_ast C0 hn0 hle hdg hs hW
  case aaload => exact zs_aald C0 hdg hs hW
  case aastore => exact zs_aast C0 hn0 hle hdg hs hW
  case arraylength => exact zs_alen C0 hdg hs hW
  case new n =>
    unfold zoks at hoks
    rw [List.all_eq_true] at hoks
    refine zs_new C0 hn0 hle hu hdg (fun q hq => ?_) hs hc hsl hW
    have h1 := hoks q hq
    simp only [Bool.and_eq_true, decide_eq_true_eq] at h1
    have hF : ∀ w ∈ ([.classLink own n (zC q.1), .instantiable (zC q.1) (zNF q.1), .initialized (zC q.1)] : List Cond), w ∈ zGood := fun w hw2 => hw w (List.mem_flatMap.mpr ⟨q, hq, hw2⟩)
    exact ⟨h1.1, h1.2, hF _ (by simp), hF _ (by simp), hF _ (by simp)⟩
  case newarray a =>
    cases a
    case int => exact zs_newa C0 hn0 hle hu hdg (hw _ (List.mem_singleton.mpr rfl)) hs hc hsl hW
    all_goals cases hs
  case anewarray n =>
    unfold zoks at hoks
    simp only [Bool.and_eq_true, decide_eq_true_eq] at hoks
    exact zs_anew C0 hn0 hle hu hoks.1 hoks.2 hdg (hw _ (List.mem_singleton.mpr rfl)) (hwn _ (List.mem_singleton.mpr rfl)) hs hc hsl hW
  case instanceof n =>
    unfold zoks at hoks
    rw [List.all_eq_true] at hoks
    cases tb with
    | nil =>
      exfalso
      have hs : zinst (.instanceof n, len, k, []) pc ls st h = some (.inr y) := hs
      unfold zinst at hs
      split at hs
      · simp [zfind] at hs
      · cases hs
    | cons q0 tb =>
      refine zs_inst (nm2 := q0.2.2.2.1) C0 hdg (hw _ (List.mem_map.mpr ⟨q0, List.mem_cons_self, rfl⟩)) (fun q hq => ?_) hs hW
      have h1 := hoks q hq
      rw [Bool.and_eq_true, Bool.and_eq_true, Bool.and_eq_true, List.all_eq_true] at h1
      obtain ⟨⟨⟨t1, t2⟩, t3⟩, t4⟩ := h1
      have t5 : q0.2.2.2.1 = q.2.2.2.1 := of_decide_eq_true (t4 q0 List.mem_cons_self)
      have t2 : q.2.2.1 < 5 := of_decide_eq_true t2
      rw [t5]
      refine ⟨of_decide_eq_true t1, ?_⟩
      have he : ∀ z ∈ (match q.2.2.1 with
        | 0 => [(zC q.1, q.2.2.2.1)]
        | 2 => [(zC q.1, RX8), (q.2.2.2.1, RX5)]
        | 3 => [(zC q.1, RX8), (q.2.2.2.1, RX0)]
        | 4 => [(zC q.1, RX0), (q.2.2.2.1, RX5)]
        | _ => []), z.1 = z.2 := fun z hz => heq z (List.mem_flatMap.mpr ⟨q, hq, hz⟩)
      rcases (show q.2.2.1 = 0 ∨ q.2.2.1 = 1 ∨ q.2.2.1 = 2 ∨ q.2.2.1 = 3 ∨ q.2.2.1 = 4 by omega) with z | z | z | z | z
      · rw [z] at he t3
        exact Or.inl ⟨of_decide_eq_true t3, Or.inl (he (zC q.1, q.2.2.2.1) (by simp))⟩
      · rw [z] at t3
        refine Or.inl ⟨of_decide_eq_true t3, Or.inr (hwn _ (List.mem_flatMap.mpr ⟨q, hq, ?_⟩))⟩
        rw [if_pos z]
        exact List.mem_singleton.mpr rfl
      · rw [z] at he t3
        exact Or.inr ⟨of_decide_eq_true t3, Or.inl ⟨he (zC q.1, RX8) (by simp), he (q.2.2.2.1, RX5) (by simp)⟩⟩
      · rw [z] at he t3
        exact Or.inr ⟨of_decide_eq_true t3, Or.inr (Or.inl ⟨he (zC q.1, RX8) (by simp), he (q.2.2.2.1, RX0) (by simp)⟩)⟩
      · rw [z] at he t3
        exact Or.inr ⟨of_decide_eq_true t3, Or.inr (Or.inr ⟨he (zC q.1, RX0) (by simp), he (q.2.2.2.1, RX5) (by simp)⟩)⟩
  case invokestatic n =>
    dsimp only at hs
    split at hs
    · rename_i hf
      have hneed : ∀ w ∈ ([.methodLink own n arraycopyName, .native arraycopyName, .static arraycopyName, .initialized "java/lang/System"] : List Cond), w ∈ zGood := fun w hw2 => hw w (by
        unfold zneed
        dsimp only
        rw [if_pos hf]
        exact hw2)
      exact zs_copy C0 hn0 hle hdg (hneed _ (by simp)) (hneed _ (by simp)) (hneed _ (by simp)) (hneed _ (by simp)) (by omega) (by omega) hs hW
    · rename_i hf
      split at hs
      · rename_i hf2
        have hneed : ∀ w ∈ ([.methodLink own n Lib.Math.max.name, .static Lib.Math.max.name, .initialized "java/lang/Math", .code Lib.Math.max.name Lib.Math.max.code 2 (some .int)] : List Cond), w ∈ zGood := fun w hw2 => hw w (by
          unfold zneed
          dsimp only
          rw [if_neg hf, if_pos hf2]
          exact hw2)
        exact zs_max C0 hdg (hneed _ (by simp)) (hneed _ (by simp)) (hneed _ (by simp)) (hneed _ (by simp)) (by omega) (by omega) hc hsl hs hW
      · rename_i hf2
        split at hs
        · rename_i hf3
          have hneed : ∀ w ∈ ([.methodLink own n Lib.Math.min.name, .static Lib.Math.min.name, .initialized "java/lang/Math", .code Lib.Math.min.name Lib.Math.min.code 2 (some .int)] : List Cond), w ∈ zGood := fun w hw2 => hw w (by
            unfold zneed
            dsimp only
            rw [if_neg hf, if_neg hf2, if_pos hf3]
            exact hw2)
          exact zs_min C0 hdg (hneed _ (by simp)) (hneed _ (by simp)) (hneed _ (by simp)) (hneed _ (by simp)) (by omega) (by omega) hc hsl hs hW
        · rename_i hf3
          unfold zoks at hoks
          rw [Bool.or_eq_true, Bool.or_eq_true, Bool.or_eq_true, List.all_eq_true] at hoks
          refine zs_callS C0 hok hM hfr hlo hle hu rfl ⟨hf, hf2, hf3⟩ hdg hw hwn (fun q hq => ?_) hs hc hsl hW
          rcases hoks with ((z | z) | z) | hoks
          · exact absurd (of_decide_eq_true z) hf
          · exact absurd (of_decide_eq_true z) hf2
          · exact absurd (of_decide_eq_true z) hf3
          · have h1 := hoks q hq
            simp only [Bool.and_eq_true, Bool.or_eq_true, decide_eq_true_eq] at h1
            exact h1
  case invokevirtual n =>
    unfold zoks at hoks
    rw [List.all_eq_true] at hoks
    refine zs_callV C0 hok hM hfr hlo hle hu rfl hdg hw heq (fun q hq => ?_) hs hc hsl hW
    have h1 := hoks q hq
    simp only [Bool.and_eq_true, Bool.or_eq_true, decide_eq_true_eq] at h1
    exact ⟨h1.1.1, h1.1.2, h1.2⟩
  case invokespecial n =>
    unfold zoks at hoks
    rw [Bool.or_eq_true, List.all_eq_true] at hoks
    refine zs_callI C0 hok hM hfr hlo hle hu rfl hdg hw ?_ hs hc hsl hW
    rcases hoks with hk | hk
    · exact Or.inl (of_decide_eq_true hk)
    · refine Or.inr fun q hq => ?_
      have h1 := hk q hq
      rw [Bool.and_eq_true] at h1
      refine ⟨?_, of_decide_eq_true h1.2⟩
      have h2 := h1.1
      split at h2
      · rename_i hz
        simp only [Bool.and_eq_true, decide_eq_true_eq] at h2
        exact Or.inl ⟨hz, h2⟩
      · simp only [Bool.and_eq_true, decide_eq_true_eq] at h2
        exact Or.inr h2
  case ireturn => exact (zm_ret hs).elim
  case lreturn => exact (zm_ret hs).elim
  case areturn => exact (zm_ret hs).elim
  case return_ => exact (zm_ret hs).elim
  all_goals cases hs
end ZSTEP
