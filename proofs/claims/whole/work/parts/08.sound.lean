/-! calls are sound; a method's run is sound -/
section ZSND
variable {p : Program} {l : Launch} {e : Env} {R : Room} {s : State} {m : MethodId} {args : Array Value} {below : List Frame} {meth : Method} {c : Code} {Q : State → Prop} {cc : ByteArray} {own nm : String} {nL b B L n0 u0 d : Nat} {xs : Nat → Int32} {dC : Nat → ClassId} {dI : Nat → Nat → Nat} {cA : Nat → ClassId} {M : Nat → zQ}
variable {pc : Nat} {ls : zL} {st : List zV} {h : zH} {y : zS}
theorem zs_pre (C : zCx p s m args meth c cc own nm nL b B L xs dC dI cA) {as : List zV} {H : Heap} {locs : List Loc} (hR : zRep b B L xs dC dI cA h H) (hS : va_S (fun q => B ≤ q) s.heap H locs) : ∀ U : State, U.heap = H → s.WarmedH U.vm → zPc b B L xs dC dI cA as h (as.map (ztr b B)).toArray U := by
  obtain ⟨-, -, -, -, -, hK, hX, hbB, hBs, -⟩ := C
  intro U hU hW
  refine ⟨rfl, by rw [hU]; exact hR, hK.moved hW, ?_, by rw [hU]; exact Nat.le_trans hBs hS.1⟩
  rw [hU]
  exact va_X.moved hW.alike (hX.kept (hS.2.1 b (Nat.lt_of_lt_of_le hbB hBs) (Nat.not_le.mpr hbB)))
theorem zs_back {r : zR} {H : Heap} {locs : List Loc} {la : Array Slot} {ce sl mc ms : Nat} {st0 rest : List Value} {a : Array Value} (hr : va_Run p l e R s m args below meth c H locs ce sl mc ms (F0 m pc la st0) rest (zQc b B L xs dC dI cA r a) (fun q => B ≤ q)) (hS : va_S (fun q => B ≤ q) s.heap H locs)
    (kk : ∀ (H1 : Heap) (locs1 : List Loc), zRep b B L xs dC dI cA r.2 H1 → va_S (fun q => B ≤ q) s.heap H1 locs1 → W p l e R s m args below meth c H1 locs1 (ce + mc) (sl + ms) Q (F0 m (pc + 3) la ((r.1.map (ztr b B)).toList ++ rest))) : W p l e R s m args below meth c H locs ce sl Q (F0 m pc la st0) := by
  intro T hT X
  obtain ⟨v, st₀, t, T', L', h0, X', hL, e1, e2, ⟨hv, hR1, hz, hk⟩, st⟩ := hr T hT X
  cases hv
  rw [h0] at hz hk
  obtain ⟨t2, a1, b1⟩ := kk T'.heap (locs ++ L') (by rw [e1]; exact hR1) ⟨Nat.le_trans hS.1 (by rw [e1]; exact hz), fun q h1 h2 => by rw [e1, hk q (Nat.lt_of_lt_of_le h1 hS.1) h2]; exact hS.2.1 q h1 h2, fun q hq => by
      rcases List.mem_append.mp hq with h | h
      · exact hS.2.2 q h
      · exact hL q h⟩ T' rfl X'
  exact ⟨t2, st t2 a1, b1⟩
/-- the end of a call, from the machine's answer -/
theorem zs_end {r : zR} {rest : List zV} (hle : n0 ≤ zn h) (hu : u0 ≤ zu h) (hm : zn h ≤ zn r.2 ∧ zu h ≤ zu r.2) {H : Heap} {locs : List Loc} {la : Array Slot} {st0 : List Value} {a : Array Value} (hS : va_S (fun q => B ≤ q) s.heap H locs) (hl : zLV b B la nL ls)
    (hr : va_Run p l e R s m args below meth c H locs (zn h - n0) (zu h - u0) (zn r.2 - zn h) (zu r.2 - zu h) (F0 m pc la st0) (rest.map (ztr b B)) (zQc b B L xs dC dI cA r a) (fun q => B ≤ q))
    (hW : zWA p l e R s m args below meth c Q b B L xs dC dI cA n0 u0 nL (pc + 3, ls, r.1.toList ++ rest, r.2)) : W p l e R s m args below meth c H locs (zn h - n0) (zu h - u0) Q (F0 m pc la st0) := by
  refine zs_back hr hS fun H1 locs1 hR1 hS1 => ?_
  have K := hW H1 locs1 la hR1 hS1 hl
  refine W.cs (cells' := zn r.2 - n0) (slots' := zu r.2 - u0) (by omega) (by omega) ?_
  dsimp only at K
  rw [List.map_append] at K
  have e : (r.1.map (ztr b B)).toList = r.1.toList.map (ztr b B) := by cases r.1 <;> rfl
  rw [e]
  exact K
theorem zs_callS (C : zCx p s m args meth c cc own nm nL b B L xs dC dI cA) (hok : ∀ mid, zMok M mid) (hM : zMet M l b B L xs dC dI cA d) (hfr : d + 1 ≤ R.frames) (hlo : 40 * d + 40 ≤ R.locals) (hle : n0 ≤ zn h) (hu : u0 ≤ zu h) {o : zO} {idx : Nat} (ho1 : o.1 = .invokestatic idx) (hflag : o.2.2.1 ≠ -2 ∧ o.2.2.1 ≠ -3 ∧ o.2.2.1 ≠ -4) (hdg : decode cc pc = .ok (.invokestatic idx, 3))
    (hw : ∀ w ∈ zneed M own o, w ∈ zGood) (hwn : ∀ w ∈ zneedN M own o, w ∈ lw_tbl) (hoks : ∀ q ∈ o.2.2.2, (q.2.2.1 = 2 ∨ q.2.2.1 = 3) ∧ (M q.2.1).2.2.2.1 = o.2.2.1.toNat) (hs : zcallS (zcall (zP M) d) o pc ls st h = some (.inr y))
    (hc : zn y.2.2.2 - n0 ≤ R.cells) (hsl : zu y.2.2.2 - u0 ≤ R.slots)
    (hW : zWA p l e R s m args below meth c Q b B L xs dC dI cA n0 u0 nL y) : zWA p l e R s m args below meth c Q b B L xs dC dI cA n0 u0 nL (pc, ls, st, h) := by
  have C0 := C
  obtain ⟨hx, hb, hml, hown, hts, hK, -⟩ := C
  unfold zcallS at hs
  split at hs
  · rename_i q hq
    have hq1 : q ∈ o.2.2.2 := by rw [hq]; exact List.mem_singleton.mpr rfl
    obtain ⟨hmode, hnp⟩ := hoks q hq1
    split at hs
    · rename_i hlen
      unfold zback at hs
      cases hcall : zcall (zP M) d q.2.1 (st.take o.2.2.1.toNat).reverse h with
      | none => rw [hcall] at hs; cases hs
      | some r =>
        rw [hcall] at hs
        simp only [Option.bind_some, zgo, Option.some.injEq, Sum.inr.injEq] at hs
        subst hs
        dsimp only at hc hsl
        obtain ⟨hm, hmet⟩ := hM _ _ _ _ hcall
        obtain ⟨-, -, hmh, hpar, hmaxL⟩ := hok q.2.1
        intro H locs la hR hS hl
        have hR : zRep b B L xs dC dI cA h H := hR
        have hstack : (st.map (ztr b B)) = (((st.take o.2.2.1.toNat).reverse.map (ztr b B))).reverse ++ (st.drop o.2.2.1.toNat).map (ztr b B) := by
          rw [List.map_reverse, List.reverse_reverse, ← List.map_append, List.take_append_drop]
        have hn : ((st.take o.2.2.1.toNat).reverse.map (ztr b B)).length = (M q.2.1).2.2.2.1 := by
          rw [hnp]
          simp
          omega
        have hneed : ∀ w ∈ zneedC M own idx q, w ∈ zGood := fun w hw2 => hw w (by
          unfold zneed
          rw [ho1]
          dsimp only
          rw [if_neg hflag.1, if_neg hflag.2.1, if_neg hflag.2.2]
          exact List.mem_flatMap.mpr ⟨q, hq1, hw2⟩)
        rcases hmode with hmode | hmode
        · unfold zneedC at hneed
          rw [hmode] at hneed
          try dsimp only at hneed
          have hcd : zcode M q.2.1 ∈ zGood := hneed _ (by simp)
          refine zs_end hle hu hm hS hl (va_runS (R := R) (As := (st.take o.2.2.1.toNat).reverse.map (ztr b B)) (rest := (st.drop o.2.2.1.toNat).map (ztr b B)) (n := (M q.2.1).2.2.2.1) ⟨hx, hb, hml, hown, hts⟩ (hmet hcd) (va_cwS (M q.2.1).2.2.2.1 hts (zGoodIn ?_) rfl rfl rfl ⟨hmh.1, hmh.2, hpar⟩ ⟨hfr, ?_⟩) ⟨zPc_blind, zs_pre C0 hR hS⟩ rfl hn hl.1 hstack (lv_room (zcatsum0 b B _ (by simp; omega))) hdg ⟨by omega, by omega⟩) hW
          · intro w hw2
            rcases List.mem_append.mp hw2 with h1 | h1
            · exact hneed w (by
                simp only [List.mem_cons, List.not_mem_nil, or_false] at h1 ⊢
                rcases h1 with h1 | h1 | h1 <;> simp [h1])
            · exact zwsM_in hcd w h1
          · show 8 + ((M q.2.1).2.2.1 + 11) + 40 * d ≤ R.locals
            omega
        · unfold zneedC at hneed
          rw [hmode] at hneed
          try dsimp only at hneed
          have hcd : zcode M q.2.1 ∈ zGood := hneed _ (by simp)
          have hnw : va_Nw (.methodLinkNest own idx (M q.2.1).1 q.2.2.2.1) s := hK.2.1 _ (hwn _ (by
            unfold zneedN
            rw [ho1]
            dsimp only
            exact List.mem_flatMap.mpr ⟨q, hq1, by rw [if_pos hmode]; exact List.mem_singleton.mpr rfl⟩)) rfl
          refine zs_end hle hu hm hS hl (va_runSN (R := R) (host := q.2.2.2.1) (As := (st.take o.2.2.1.toNat).reverse.map (ztr b B)) (rest := (st.drop o.2.2.1.toNat).map (ztr b B)) (n := (M q.2.1).2.2.2.1) ⟨hx, hb, hml, hown, hts⟩ (hmet hcd) ⟨va_cnB (M q.2.1).2.2.2.1 hts (zGoodIn (zwsM_in hcd)) rfl rfl rfl hnw (hts _ (hneed _ (by simp))) ⟨hmh.1, hmh.2, hpar⟩ ⟨hfr, ?_⟩, hts _ (hneed _ (by simp)), trivial⟩ ⟨zPc_blind, zs_pre C0 hR hS⟩ rfl hn hl.1 hstack (lv_room (zcatsum0 b B _ (by simp; omega))) hdg ⟨by omega, by omega⟩) hW
          show 8 + ((M q.2.1).2.2.1 + 11) + 40 * d ≤ R.locals
          omega
    · cases hs
  · cases hs
theorem zs_callV (C : zCx p s m args meth c cc own nm nL b B L xs dC dI cA) (hok : ∀ mid, zMok M mid) (hM : zMet M l b B L xs dC dI cA d) (hfr : d + 1 ≤ R.frames) (hlo : 40 * d + 40 ≤ R.locals) (hle : n0 ≤ zn h) (hu : u0 ≤ zu h) {o : zO} {idx : Nat} (ho1 : o.1 = .invokevirtual idx) (hdg : decode cc pc = .ok (.invokevirtual idx, 3))
    (hw : ∀ w ∈ zneed M own o, w ∈ zGood) (heq : ∀ z ∈ zeqs M own o, z.1 = z.2) (hoks : ∀ q ∈ o.2.2.2, q.1 < 12 ∧ (q.2.2.1 < 2 ∨ 10 ≤ q.2.2.1) ∧ (M q.2.1).2.2.2.1 = o.2.2.1.toNat) (hs : zcallV (zcall (zP M) d) o pc ls st h = some (.inr y))
    (hc : zn y.2.2.2 - n0 ≤ R.cells) (hsl : zu y.2.2.2 - u0 ≤ R.slots)
    (hW : zWA p l e R s m args below meth c Q b B L xs dC dI cA n0 u0 nL y) : zWA p l e R s m args below meth c Q b B L xs dC dI cA n0 u0 nL (pc, ls, st, h) := by
  have C0 := C
  obtain ⟨hx, hb, hml, hown, hts, hK, -⟩ := C
  unfold zcallV at hs
  split at hs
  · rename_i a rest hdrop
    split at hs
    · rename_i hlen
      cases hf : zfind o.2.2.2 (zk h a).1 with
      | none => rw [hf] at hs; cases hs
      | some mid =>
        rw [hf, Option.bind_some] at hs
        obtain ⟨q, hq1, e1, e2⟩ := zfind_mem hf
        obtain ⟨ht, hmode, hnp⟩ := hoks q hq1
        unfold zback at hs
        cases hcall : zcall (zP M) d mid (.inr (.inr (some a)) :: (st.take o.2.2.1.toNat).reverse) h with
        | none => rw [hcall] at hs; cases hs
        | some r =>
          rw [hcall] at hs
          simp only [Option.bind_some, zgo, Option.some.injEq, Sum.inr.injEq] at hs
          subst hs
          dsimp only at hc hsl
          subst e2
          obtain ⟨hm, hmet⟩ := hM _ _ _ _ hcall
          obtain ⟨-, -, hmh, hpar, hmaxL⟩ := hok q.2.1
          intro H locs la hR hS hl
          have hR : zRep b B L xs dC dI cA h H := hR
          have hnlen : o.2.2.1.toNat ≤ st.length := by
            have h3 := congrArg List.length hdrop
            simp only [List.length_drop, List.length_cons] at h3
            omega
          have hstack : (st.map (ztr b B)) = (((st.take o.2.2.1.toNat).reverse.map (ztr b B))).reverse ++ .ref (zadr b B a) :: rest.map (ztr b B) := by
            rw [List.map_reverse, List.reverse_reverse]
            have h3 : st = st.take o.2.2.1.toNat ++ (.inr (.inr (some a)) :: rest) := by rw [← hdrop, List.take_append_drop]
            conv => lhs; rw [h3]
            rw [List.map_append]
            rfl
          have hn : ((st.take o.2.2.1.toNat).reverse.map (ztr b B)).length = (M q.2.1).2.2.2.1 := by
            rw [hnp]
            simp
            omega
          have hneed : ∀ w ∈ zneedC M own idx q, w ∈ zGood := fun w hw2 => hw w (by
            unfold zneed
            rw [ho1]
            dsimp only
            exact List.mem_flatMap.mpr ⟨q, hq1, hw2⟩)
          obtain ⟨a1, a2⟩ := hR.in (a := a) (by omega)
          have he := zws_get b B cA h a1 a2
          rw [zcell_obj (by omega)] at he
          have hrec := va_recv hK.1 hR.1 (zcl_at _ (by omega)) he
          have hrec : ∃ cell : Cell, H[zadr b B a]? = some cell ∧ cell.vm.isStatics = false ∧ s.vm.findClass (zC q.1) = some cell.cls := by rw [e1]; exact hrec
          have hloc : 8 + ((M q.2.1).2.2.1 + 11) + (zrm d (zn r.2 - zn h) (zu r.2 - zu h)).locals ≤ R.locals := by
            show 8 + ((M q.2.1).2.2.1 + 11) + 40 * d ≤ R.locals
            omega
          have hpreV : PreV s H (zC q.1) (zadr b B a) (zPc b B L xs dC dI cA (.inr (.inr (some a)) :: (st.take o.2.2.1.toNat).reverse) h) ((st.take o.2.2.1.toNat).reverse.map (ztr b B)) := ⟨zPc_blind, hrec, zs_pre C0 hR hS⟩
          have heqs : ∀ z ∈ (match q.2.2.1 with
            | 0 => [((M q.2.1).1.cls, zC q.1)]
            | 1 => [((M q.2.1).1.cls, q.2.2.2.2)]
            | k => [((M (k - 10)).1.cls, q.2.2.2.2), ((M (k - 10)).1.name, (M q.2.1).1.name), ((M (k - 10)).1.desc, (M q.2.1).1.desc)]), z.1 = z.2 := fun z hz => heq z (by
            unfold zeqs
            rw [ho1]
            dsimp only
            exact List.mem_flatMap.mpr ⟨q, hq1, hz⟩)
          unfold zneedC at hneed
          rcases (show q.2.2.1 = 0 ∨ q.2.2.1 = 1 ∨ 10 ≤ q.2.2.1 by omega) with hmo | hmo | hmo
          · rw [hmo] at hneed heqs
            try dsimp only at hneed heqs
            have hcd : zcode M q.2.1 ∈ zGood := hneed _ (by simp)
            refine zs_end hle hu hm hS hl (va_runV (R := R) (C := zC q.1) (As := (st.take o.2.2.1.toNat).reverse.map (ztr b B)) (rest := rest.map (ztr b B)) (n := (M q.2.1).2.2.2.1) ⟨hx, hb, hml, hown, hts⟩ (hmet hcd) (cwV (M q.2.1).2.2.2.1 hts (zGoodIn ?_) rfl rfl rfl ⟨heqs ((M q.2.1).1.cls, zC q.1) (List.mem_singleton.mpr rfl), hmh.1, hmh.2, hpar⟩ ⟨hfr, hloc⟩) hpreV rfl hn hl.1 hstack (lv_room (zcatsum0 b B _ hlen)) hdg ⟨by omega, by omega⟩) hW
            intro w hw2
            rcases List.mem_append.mp hw2 with h1 | h1
            · exact hneed w (by
                simp only [List.mem_cons, List.not_mem_nil, or_false] at h1 ⊢
                rcases h1 with h1 | h1 | h1 | h1 <;> simp [h1])
            · exact zwsM_in hcd w h1
          · rw [hmo] at hneed heqs
            try dsimp only at hneed heqs
            have hcd : zcode M q.2.1 ∈ zGood := hneed _ (by simp)
            have hyc : (M q.2.1).1.cls = q.2.2.2.2 := heqs _ (List.mem_singleton.mpr rfl)
            refine zs_end hle hu hm hS hl (va_runU (R := R) (C := zC q.1) (owner := q.2.2.2.2) (x := zxn M q) (As := (st.take o.2.2.1.toNat).reverse.map (ztr b B)) (rest := rest.map (ztr b B)) (n := (M q.2.1).2.2.2.1) ⟨hx, hb, hml, hown, hts⟩ (hmet hcd) (va_cwU (M q.2.1).2.2.2.1 hts (zGoodIn ?_) rfl rfl rfl ?_ ⟨by rw [← hyc]; exact hmh.1, by rw [← hyc]; exact hmh.2, hpar⟩ ⟨hfr, hloc⟩) hpreV rfl hn hl.1 hstack (lv_room (zcatsum0 b B _ hlen)) hdg ⟨by omega, by omega⟩) hW
            · intro w hw2
              rcases List.mem_append.mp hw2 with h1 | h1
              · exact hneed w (by
                  simp only [List.mem_cons, List.not_mem_nil, or_false] at h1 ⊢
                  rcases h1 with h1 | h1 | h1 | h1 | h1 <;> simp [h1] <;> simp [zxn])
              · exact zwsM_in hcd w h1
            · rw [← hyc]
              rfl
          · obtain ⟨k, hk⟩ : ∃ k, q.2.2.1 = k + 10 := ⟨q.2.2.1 - 10, by omega⟩
            rw [hk] at hneed heqs
            try dsimp only at hneed heqs
            have hcd : zcode M q.2.1 ∈ zGood := hneed _ (by simp)
            have hz1 := heqs ((M (k + 10 - 10)).1.cls, q.2.2.2.2) (by simp)
            have hz2 := heqs ((M (k + 10 - 10)).1.name, (M q.2.1).1.name) (by simp)
            have hz3 := heqs ((M (k + 10 - 10)).1.desc, (M q.2.1).1.desc) (by simp)
            dsimp only at hz1 hz2 hz3
            obtain ⟨-, -, hmh0, -⟩ := hok (k + 10 - 10)
            have hcd0 : Cond.code (⟨q.2.2.2.2, (zxn M q).name, (zxn M q).desc⟩ : MethodName) (M (k + 10 - 10)).2.1 (M (k + 10 - 10)).2.2.1 (M (k + 10 - 10)).2.2.2.2.1 ∈ zGood := by
              have h4 := hneed (zcode M (k + 10 - 10)) (by simp)
              have h5 : (⟨q.2.2.2.2, (zxn M q).name, (zxn M q).desc⟩ : MethodName) = (M (k + 10 - 10)).1 := by
                show (⟨q.2.2.2.2, (M q.2.1).1.name, (M q.2.1).1.desc⟩ : MethodName) = _
                rw [← hz1, ← hz2, ← hz3]
              rw [h5]
              exact h4
            refine zs_end hle hu hm hS hl (va_runU (R := R) (C := zC q.1) (owner := q.2.2.2.2) (x := zxn M q) (As := (st.take o.2.2.1.toNat).reverse.map (ztr b B)) (rest := rest.map (ztr b B)) (n := (M q.2.1).2.2.2.1) ⟨hx, hb, hml, hown, hts⟩ (hmet hcd) (va_cwO (M q.2.1).2.2.2.1 hts (zGoodIn ?_) rfl rfl rfl hcd0 ⟨by rw [← hz1]; exact hmh0.1, by rw [← hz1]; exact hmh0.2, hpar⟩ ⟨hfr, hloc⟩) hpreV rfl hn hl.1 hstack (lv_room (zcatsum0 b B _ hlen)) hdg ⟨by omega, by omega⟩) hW
            intro w hw2
            rcases List.mem_append.mp hw2 with h1 | h1
            · exact hneed w (by
                simp only [List.mem_cons, List.not_mem_nil, or_false] at h1 ⊢
                rcases h1 with h1 | h1 | h1 | h1 | h1 | h1 <;> simp [h1] <;> simp [zxn, zown])
            · exact zwsM_in hcd w h1
    · cases hs
  · cases hs
theorem zs_callI (C : zCx p s m args meth c cc own nm nL b B L xs dC dI cA) (hok : ∀ mid, zMok M mid) (hM : zMet M l b B L xs dC dI cA d) (hfr : d + 1 ≤ R.frames) (hlo : 40 * d + 40 ≤ R.locals) (hle : n0 ≤ zn h) (hu : u0 ≤ zu h) {o : zO} {idx : Nat} (ho1 : o.1 = .invokespecial idx) (hdg : decode cc pc = .ok (.invokespecial idx, 3))
    (hw : ∀ w ∈ zneed M own o, w ∈ zGood) (hoks : o.2.2.1 = -1 ∨ ∀ q ∈ o.2.2.2, ((q.2.2.1 = 4 ∧ (M q.2.1).1.name = "<init>" ∧ (M q.2.1).2.2.2.2.1 = none) ∨ (q.2.2.1 = 5 ∧ (M q.2.1).1.name ≠ "<init>")) ∧ (M q.2.1).2.2.2.1 = o.2.2.1.toNat) (hs : zcallI (zcall (zP M) d) o pc ls st h = some (.inr y))
    (hc : zn y.2.2.2 - n0 ≤ R.cells) (hsl : zu y.2.2.2 - u0 ≤ R.slots)
    (hW : zWA p l e R s m args below meth c Q b B L xs dC dI cA n0 u0 nL y) : zWA p l e R s m args below meth c Q b B L xs dC dI cA n0 u0 nL (pc, ls, st, h) := by
  have C0 := C
  obtain ⟨hx, hb, hml, hown, hts, hK, -⟩ := C
  unfold zcallI at hs
  split at hs
  · rename_i hflag
    have hneed : ∀ w ∈ ([.methodLink own idx objectInit, .instanceMethod objectInit, .code objectInit ⟨#[0xb1]⟩ 1 none] : List Cond), w ∈ zGood := fun w hw2 => hw w (by
      unfold zneed
      rw [ho1]
      dsimp only
      rw [if_pos hflag]
      exact hw2)
    split at hs
    · rename_i a rest
      split at hs
      · rename_i hlen
        simp only [zgo, Option.some.injEq, Sum.inr.injEq] at hs
        subst hs
        intro H locs la hR hS hl
        refine W.objInit hx hb hown (hts _ (hneed _ (by simp))) (hts _ (hneed _ (by simp))) (hts _ (hneed _ (by simp))) rfl (by rw [hml]; exact hl.1) (rest := rest.map (ztr b B)) rfl hdg (by omega) ?_ (hW H locs la hR hS hl)
        have h4 := zcatsum0 b B rest hlen
        show 2 * 0 + _ + 12 ≤ R.locals
        omega
      · cases hs
    · cases hs
  · rename_i hflag
    split at hs
    · rename_i q0 a rest hq hdrop
      have hq1 : q0 ∈ o.2.2.2 := by rw [hq]; exact List.mem_singleton.mpr rfl
      obtain ⟨hmode, hnp⟩ := (hoks.resolve_left hflag) q0 hq1
      split at hs
      · rename_i hlen
        unfold zback at hs
        cases hcall : zcall (zP M) d q0.2.1 (.inr (.inr (some a)) :: (st.take o.2.2.1.toNat).reverse) h with
        | none => rw [hcall] at hs; cases hs
        | some r =>
          rw [hcall] at hs
          simp only [Option.bind_some, zgo, Option.some.injEq, Sum.inr.injEq] at hs
          subst hs
          dsimp only at hc hsl
          obtain ⟨hm, hmet⟩ := hM _ _ _ _ hcall
          obtain ⟨-, -, hmh, hpar, hmaxL⟩ := hok q0.2.1
          intro H locs la hR hS hl
          have hR : zRep b B L xs dC dI cA h H := hR
          have hnlen : o.2.2.1.toNat ≤ st.length := by
            have h3 := congrArg List.length hdrop
            simp only [List.length_drop, List.length_cons] at h3
            omega
          have hstack : (st.map (ztr b B)) = (((st.take o.2.2.1.toNat).reverse.map (ztr b B))).reverse ++ .ref (zadr b B a) :: rest.map (ztr b B) := by
            rw [List.map_reverse, List.reverse_reverse]
            have h3 : st = st.take o.2.2.1.toNat ++ (.inr (.inr (some a)) :: rest) := by rw [← hdrop, List.take_append_drop]
            conv => lhs; rw [h3]
            rw [List.map_append]
            rfl
          have hn : ((st.take o.2.2.1.toNat).reverse.map (ztr b B)).length = (M q0.2.1).2.2.2.1 := by
            rw [hnp]
            simp
            omega
          have hneed : ∀ w ∈ zneedC M own idx q0, w ∈ zGood := fun w hw2 => hw w (by
            unfold zneed
            rw [ho1]
            dsimp only
            rw [if_neg hflag]
            exact List.mem_flatMap.mpr ⟨q0, hq1, hw2⟩)
          have hloc : 8 + ((M q0.2.1).2.2.1 + 11) + (zrm d (zn r.2 - zn h) (zu r.2 - zu h)).locals ≤ R.locals := by
            show 8 + ((M q0.2.1).2.2.1 + 11) + 40 * d ≤ R.locals
            omega
          unfold zneedC at hneed
          rcases hmode with ⟨hmo, hini, hret⟩ | ⟨hmo, hini⟩
          · rw [hmo] at hneed
            try dsimp only at hneed
            have hcd : zcode M q0.2.1 ∈ zGood := hneed _ (by simp)
            exact zs_end hle hu hm hS hl (va_runI (R := R) (As := (st.take o.2.2.1.toNat).reverse.map (ztr b B)) (rest := rest.map (ztr b B)) (n := (M q0.2.1).2.2.2.1) ⟨hx, hb, hml, hown, hts⟩ (hmet hcd) (cwI (M q0.2.1).2.2.2.1 hts (zGoodIn (zwsM_in hcd)) (by unfold zwsM zcode; rw [hret]) rfl rfl (hts _ (hneed _ (by simp))) (hts _ (hneed _ (by simp))) (hts _ (hneed _ (by simp))) hini ⟨hmh.1, hmh.2, hpar⟩ ⟨hfr, hloc⟩) ⟨zPc_blind, zs_pre C0 hR hS⟩ rfl hn hl.1 hstack (lv_room (zcatsum0 b B _ hlen.1)) hdg ⟨by omega, by omega⟩) hW
          · rw [hmo] at hneed
            try dsimp only at hneed
            have hcd : zcode M q0.2.1 ∈ zGood := hneed _ (by simp)
            obtain ⟨a1, a2⟩ := hR.in (a := a) (by omega)
            have he := zws_get b B cA h a1 a2
            rw [zcell_obj (by omega)] at he
            have hrec := va_recv hK.1 hR.1 (zcl_at _ hlen.2) he
            refine zs_end hle hu hm hS hl (va_runSU (R := R) (C := zC (zk h a).1) (As := (st.take o.2.2.1.toNat).reverse.map (ztr b B)) (rest := rest.map (ztr b B)) (n := (M q0.2.1).2.2.2.1) (hK.1.1 _ _ (zcl_at _ hlen.2)).2 ⟨hx, hb, hml, hown, hts⟩ (hmet hcd) (va_cwSU (M q0.2.1).2.2.2.1 hts (zGoodIn ?_) rfl rfl rfl ⟨hini, hpar⟩ ⟨hfr, hloc⟩) ⟨zPc_blind, hrec, zs_pre C0 hR hS⟩ rfl hn hl.1 hstack (lv_room (zcatsum0 b B _ hlen.1)) hdg ⟨by omega, by omega⟩) hW
            intro w hw2
            rcases List.mem_append.mp hw2 with h1 | h1
            · exact hneed w (by
                simp only [List.mem_cons, List.not_mem_nil, or_false] at h1 ⊢
                rcases h1 with h1 | h1 | h1 | h1 | h1 <;> simp [h1])
            · exact zwsM_in hcd w h1
      · cases hs
    · cases hs
end ZSND
