/-! ===== a method's contract: its proof, its ends, its calls ===== -/
theorem jOK.z {y : jY} {d : Nat} {C : jC} {Q : Option Value → jM → Prop} {X : String → jM → Prop} (h : jOK y d C Q X) : jOK0 y d C := h.1
theorem jw_hd_good (y : jY) : ((jHd y).onTables && (jHd y).keeps) = true := by
  obtain ⟨a, b, c, e, hh⟩ := y
  cases hh <;> rfl
theorem jRel_amb_blind {G : jG} {M : jM} {args : List Value} : FrameBlind (va_Pc args (fun U => jAmb G U U.heap ∧ jRel G M U U.heap)) := by
  intro a U g mk h
  obtain ⟨h1, h2, h3⟩ := h
  refine ⟨h1, ?_, ?_⟩
  · have h4 := jAmb.kept (s := U) (U := U.calling g mk a) (H := U.heap) (H1 := (U.calling g mk a).heap) (State.WarmedH.refl U) (Nat.le_refl _) (fun _ _ _ => rfl) h2
    exact h4
  · exact jRel.moved (u := U) (U := U.calling g mk a) (Vm.Alike.refl U.vm) h3
theorem jMet_of {G : jG} {y : jY} {args : List Value} {M : jM} {kc ks d : Nat} {Q : Option Value → jM → Prop} {X : String → jM → Prop} (l : List (Option Value)) (hp : plainName y.1.cls = true) (hh : y.2.2.2.2 = []) (hl : (lg_sl args).length ≤ y.2.2.1) (hl0 : jl 0 l = lv_args 0 args) (hs : (gL G).stackTraces = false)
    (body : ∀ C, jOK y d C Q X → jCG C = G → J C M kc ks 0 l []) : JMet G y args M kc ks d Q X := by
  obtain ⟨a, b, c0, e0, hh0⟩ := y
  subst hh
  refine vx_ofW (cc := b) (maxL := c0) (ret := e0) (ws' := jWs) hp rfl ?_
  intro p e s m args' below meth c s₁ B hml ht hv
  obtain ⟨rfl, hA, hR⟩ := hv
  have hts := atoms_spec (ws := jW (a, b, c0, e0, [])) B.pre
  have hown : s.vm.findClass a.cls = some m.cls := findClass_of_methodNamed B.named
  have hl1 := lv_entry args (n := c0) hl
  rw [lg_entry_eq]
  have K := body (p, e, jRm d kc ks, s, m, args.toArray, below, meth, c, vx_MQ below (jQc G Q) (jXc G X) args.toArray s kc ks (jA G), G)
    ⟨⟨B.exec, B.bytes, B.returns, hml, hown, fun w h => hts w (List.mem_cons_of_mem _ h), B.notSynchronized, (name_of_methodNamed B.named B.method).1, ?_, Nat.le_refl _, Nat.le_refl _, hs, hA⟩, rfl⟩ rfl
  · exact K s.heap [] 0 0 _ hR va_S.rf (by rw [hl0, hml]; exact hl1) (by show 0 + kc ≤ kc; omega) (by show 0 + ks ≤ ks; omega)
  · exact List.eq_nil_iff_forall_not_mem.mpr fun x hx => ht x hx
theorem jMet_ofH {G : jG} {y : jY} {args : List Value} {M : jM} {kc ks d : Nat} {Q : Option Value → jM → Prop} {X : String → jM → Prop} (l : List (Option Value)) (hp : plainName y.1.cls = true) (h0 : Nat × Nat × Nat × Nat) (ht : List (Nat × Nat × Nat × Nat)) (hh : y.2.2.2.2 = h0 :: ht) (hl : (lg_sl args).length ≤ y.2.2.1) (hl0 : jl 0 l = lv_args 0 args) (hs : (gL G).stackTraces = false)
    (body : ∀ C, jOK y d C Q X → jCG C = G → J C M kc ks 0 l []) : JMet G y args M kc ks d Q X := by
  obtain ⟨a, b, c0, e0, hh0⟩ := y
  subst hh
  refine vx_ofWH (cc := b) (maxL := c0) (ret := e0) (hh := h0 :: ht) (ws' := jWs) hp rfl ?_
  intro p e s m args' below meth c s₁ B hml hv
  obtain ⟨rfl, hA, hR⟩ := hv
  have hts := atoms_spec (ws := jW (a, b, c0, e0, h0 :: ht)) B.pre
  have hown : s.vm.findClass a.cls = some m.cls := findClass_of_methodNamed B.named
  have hl1 := lv_entry args (n := c0) hl
  rw [lg_entry_eq]
  have K := body (p, e, jRm d kc ks, s, m, args.toArray, below, meth, c, vx_MQ below (jQc G Q) (jXc G X) args.toArray s kc ks (jA G), G)
    ⟨⟨B.exec, B.bytes, B.returns, hml, hown, fun w h => hts w (List.mem_cons_of_mem _ h), B.notSynchronized, (name_of_methodNamed B.named B.method).1, vx_table (x := a) B (hts _ List.mem_cons_self), Nat.le_refl _, Nat.le_refl _, hs, hA⟩, rfl⟩ rfl
  exact K s.heap [] 0 0 _ hR va_S.rf (by rw [hl0, hml]; exact hl1) (by show 0 + kc ≤ kc; omega) (by show 0 + ks ≤ ks; omega)
section JR
variable {C : jC} {y : jY} {d : Nat} {M : jM} {kc ks pc : Nat} {l : List (Option Value)} {st : List Value} {Q : Option Value → jM → Prop} {X : String → jM → Prop}
theorem j_iret (hC : jOK y d C Q X) {v : Int32} {ty : FieldType} (hr9 : y.2.2.2.1 = some ty) (hn : narrow ty (.int v) = .int v) (hd : decode y.2.1 pc = .ok (.ireturn, 1)) (hq : Q (some (.int v)) M) : J C M kc ks pc l [.int v] := by
  obtain ⟨p, e, R, s, m, args, below, meth, c, Qs, G⟩ := C
  obtain ⟨⟨hx, hb, hr, hml, hown, hts, hlk, hnm, htb, hdf, hdl, hfl, hA⟩, rfl⟩ := hC
  intro H locs cells slots ls h1 h2 h3 h4 h5
  refine W.widen (k := R.cells) (n := R.slots) (by omega) (by omega) (vx_ret ?_)
  exact W.zret (v := v) hx hb (hr.trans hr9) hn (fun t ht hW => ⟨_, M, rfl, hq, by rw [ht]; exact h1.moved hW.alike, h2.F ht⟩) h2.2.2 hd
theorem j_vret (hC : jOK y d C Q X) (hr9 : y.2.2.2.1 = none) (hd : decode y.2.1 pc = .ok (.return_, 1)) (hq : Q none M) : J C M kc ks pc l [] := by
  obtain ⟨p, e, R, s, m, args, below, meth, c, Qs, G⟩ := C
  obtain ⟨⟨hx, hb, hr, hml, hown, hts, hlk, hnm, htb, hdf, hdl, hfl, hA⟩, rfl⟩ := hC
  intro H locs cells slots ls h1 h2 h3 h4 h5
  refine W.widen (k := R.cells) (n := R.slots) (by omega) (by omega) (vx_ret ?_)
  exact W.vret hx hb (hr.trans hr9) (fun t ht hW => ⟨_, M, rfl, hq, by rw [ht]; exact h1.moved hW.alike, h2.F ht⟩) h2.2.2 hd
theorem j_aret (hC : jOK y d C Q X) {v : Value} {ty : FieldType} (hr9 : y.2.2.2.1 = some ty) (hty : (∃ n, ty = .object n) ∨ ∃ t, ty = .array t) (hd : decode y.2.1 pc = .ok (.areturn, 1)) (hq : Q (some v) M) (hv : jrf v) : J C M kc ks pc l [v] := by
  obtain ⟨p, e, R, s, m, args, below, meth, c, Qs, G⟩ := C
  obtain ⟨⟨hx, hb, hr, hml, hown, hts, hlk, hnm, htb, hdf, hdl, hfl, hA⟩, rfl⟩ := hC
  intro H locs cells slots ls h1 h2 h3 h4 h5
  refine W.widen (k := R.cells) (n := R.slots) (by omega) (by omega) (vx_ret ?_)
  exact W.aret (v := v) hx hb (hr.trans hr9) hty hv (fun t ht hW => ⟨_, M, rfl, hq, by rw [ht]; exact h1.moved hW.alike, h2.F ht⟩) h2.2.2 hd
theorem j_dret (hC : jOK y d C Q X) {v : UInt64} (hr9 : y.2.2.2.1 = some .double) (hd : decode y.2.1 pc = .ok (.dreturn, 1)) (hq : Q (some (.double v)) M) : J C M kc ks pc l [.double v] := by
  obtain ⟨p, e, R, s, m, args, below, meth, c, Qs, G⟩ := C
  obtain ⟨⟨hx, hb, hr, hml, hown, hts, hlk, hnm, htb, hdf, hdl, hfl, hA⟩, rfl⟩ := hC
  intro H locs cells slots ls h1 h2 h3 h4 h5
  refine W.widen (k := R.cells) (n := R.slots) (by omega) (by omega) (vx_ret ?_)
  exact W.dret (v := v) hx hb (hr.trans hr9) (fun t ht hW => ⟨_, M, rfl, hq, by rw [ht]; exact h1.moved hW.alike, h2.F ht⟩) h2.2.2 hd
theorem j_fret (hC : jOK y d C Q X) {v : UInt32} (hr9 : y.2.2.2.1 = some .float) (hd : decode y.2.1 pc = .ok (.freturn, 1)) (hq : Q (some (.float v)) M) : J C M kc ks pc l [.float v] := by
  obtain ⟨p, e, R, s, m, args, below, meth, c, Qs, G⟩ := C
  obtain ⟨⟨hx, hb, hr, hml, hown, hts, hlk, hnm, htb, hdf, hdl, hfl, hA⟩, rfl⟩ := hC
  intro H locs cells slots ls h1 h2 h3 h4 h5
  refine W.widen (k := R.cells) (n := R.slots) (by omega) (by omega) (vx_ret ?_)
  exact W.fret (v := v) hx hb (hr.trans hr9) (fun t ht hW => ⟨_, M, rfl, hq, by rw [ht]; exact h1.moved hW.alike, h2.F ht⟩) h2.2.2 hd
theorem jW_good {y : jY} (h : jHd y ∈ jWs) : GoodIn jWs (jW y) := fun w hw => by
  rcases List.mem_cons.mp hw with rfl | hw
  · exact ⟨h, Or.inl (jw_hd_good y)⟩
  · exact ⟨hw, jWs_good w hw⟩
/-- no throw -/
def jNo : String → jM → Prop := fun _ _ => False
theorem jMet_met {G : jG} {y : jY} {args : List Value} {kc ks d : Nat} (h : JMet G y args M kc ks d Q jNo) : Met (gL G) y.1 (jW y) (jRm d kc ks) (va_Pc args (fun U => jAmb G U U.heap ∧ jRel G M U U.heap)) (jQc G Q) kc ks (jA G) :=
  Jvm.Free.MetFree.mono h (fun _ _ h => h) (fun _ _ _ _ _ h => h) (fun a s o t _ hq => by
    rcases hq with hq | ⟨q, h1, E, ce, L, ⟨M', hx, -⟩, -⟩
    · exact hq
    · exact hx.elim)
/-- behind a call: the heap's relation, seen from the caller -/
theorem jBack {G : jG} {s st₀ t T' : State} {H : Heap} {locs L : List Loc} {M' : jM} (e0 : st₀.heap = H) (e1 : T'.heap = t.heap) (hal : s.vm.Alike t.vm) (hL : ∀ q ∈ L, jA G q.base) (hR : jRel G M' t t.heap) (hF : va_F (jA G) st₀ t) (hS : va_S (jA G) s.heap H locs) : jRel G M' s T'.heap ∧ va_S (jA G) s.heap T'.heap (locs ++ L) := by
  refine ⟨by rw [e1]; exact hR.moved hal.symm, ?_⟩
  obtain ⟨k1, k2⟩ := hF
  rw [e0] at k1 k2
  exact ⟨Nat.le_trans hS.1 (by rw [e1]; exact k1), fun q g1 g2 => by rw [e1, k2 q (Nat.lt_of_lt_of_le g1 hS.1) g2]; exact hS.2.1 q g1 g2, fun q hq => by
    rcases List.mem_append.mp hq with h | h
    · exact hS.2.2 q h
    · exact hL q h⟩
theorem j_callV (hC : jOK0 y d C) {y' : jY} {idx b n kc' ks' d' ci : Nat} {As rest : List Value} {fs : List Value} {r : vw_C} {Q' : Option Value → jM → Prop} {X' : String → jM → Prop} (hm : jMv y.1.cls idx y' n) (hd : decode y.2.1 pc = .ok (.invokevirtual idx, 3))
    (hM : JMet (jCG C) y' (.ref b :: As) M kc' ks' d' Q' X') (hb0 : M.1 b = some (.inr (ci, fs))) (hci : vwCl[ci]? = some r) (hr1 : r.1 = y'.1.cls) (hn : As.length = n) (hst : st = As.reverse ++ .ref b :: rest) (hd1 : d' + 1 ≤ d) (hkc : kc' ≤ kc) (hks : ks' ≤ ks) (hrest : (rest.map fun v => v.category).sum ≤ 8)
    (kk : ∀ v M', Q' v M' → J C M' (kc - kc') (ks - ks') (pc + 3) l (v.toList ++ rest)) (kx : ∀ E M', X' E M' → JX C M' (kc - kc') (ks - ks') pc l E) : J C M kc ks pc l st := by
  obtain ⟨p, e, R, s, m, args, below, meth, c, Qs, G⟩ := C
  obtain ⟨hx, hb, hr, hml, hown, hts, hlk, hnm, htb, hdf, hdl, hfl, hA⟩ := hC
  intro H locs cells slots ls h1 h2 h3 h4 h5 T hT X
  obtain ⟨⟨m1, m2, m3, m4, m5, m6⟩, m7, m8, m9, m10⟩ := hm
  subst hst
  obtain ⟨r', cellB, z1, z2, z3, z4, -⟩ := (h1.2 b _ hb0).wk hA
  cases z1.symm.trans hci
  have hcls : s.vm.findClass y'.1.cls = some cellB.cls := by rw [z3, ← hr1]; exact (hA.1 ci r hci).2.1
  have hhd : jHd y' = Cond.code y'.1 y'.2.1 y'.2.2.1 y'.2.2.2.1 := by
    obtain ⟨a1, b1, c1, e1, hh1⟩ := y'
    cases m7
    rfl
  have hw : jW y' = Cond.code y'.1 y'.2.1 y'.2.2.1 y'.2.2.2.1 :: jWs := by unfold jW; rw [hhd]
  have hcb : CallB R s args y.1.cls idx y'.1 y'.2.1 y'.2.2.1 y'.2.2.2.1 (jW y') (jRm d' kc' ks') kc' ks' n := callB_of n hts (jW_good m1) hw rfl rfl (hts _ m2) (hts _ m8) ⟨m3, m4, m5⟩ ⟨by show d' + 1 ≤ R.frames; omega, by show 8 + (y'.2.2.1 + 11) + 46 * d' ≤ R.locals; omega⟩
  rcases vx_runV (cc := y.2.1) (nL := y.2.2.1) (Ts := jWs) (g := F0 m pc ls (As.reverse ++ .ref b :: rest)) (C := y'.1.cls) ⟨hx, hb, hml, hown, hts⟩ hM ⟨hcb, hts _ m9, hts _ m10⟩ ⟨jRel_amb_blind, ⟨cellB, z2, z4, hcls⟩, fun U hU hW => ⟨rfl, by rw [hU]; exact hA.kept hW h2.1 h2.2.1, by rw [hU]; exact h1.moved hW.alike⟩⟩ rfl hn (h3.1.trans hml) rfl (lv_room hrest) hd ⟨by omega, by omega⟩ T hT X with ⟨v, st₀, t, T', L, e0, X', hL, e1, e2, ⟨v', M', hv, hQ, hR, hF⟩, stp⟩ | ⟨q, st₀, t, T', L, E, ce, e0, X', hL, e1, e2, ⟨M', hE, hR, hF⟩, hce, hcv, hcl, stp⟩
  · cases hv
    obtain ⟨b1, b2⟩ := jBack e0 e1 (by rw [← e2]; exact X'.warmed.alike) hL hR hF h2
    obtain ⟨t2, a1, a2⟩ := kk v M' hQ T'.heap (locs ++ L) (cells + kc') (slots + ks') ls b1 b2 h3 (by omega) (by omega) T' rfl X'
    exact ⟨t2, stp t2 a1, a2⟩
  · obtain ⟨b1, b2⟩ := jBack e0 e1 (by rw [← e2]; exact X'.warmed.alike) hL hR hF h2
    obtain ⟨t2, a1, a2⟩ := kx E M' hE T'.heap (locs ++ L) (cells + kc') (slots + ks') ls rest q ce b1 b2 h3 (by omega) (by omega) (by rw [e1]; exact hce) hcv hcl T' rfl X'
    exact ⟨t2, stp.trans a1, a2⟩
theorem j_callS (hC : jOK0 y d C) {y' : jY} {idx n kc' ks' d' : Nat} {As rest : List Value} {Q' : Option Value → jM → Prop} {X' : String → jM → Prop} (hm : jMs y.1.cls idx y' n) (hh0 : y'.2.2.2.2 = []) (hd : decode y.2.1 pc = .ok (.invokestatic idx, 3))
    (hM : JMet (jCG C) y' As M kc' ks' d' Q' X') (hn : As.length = n) (hst : st = As.reverse ++ rest) (hd1 : d' + 1 ≤ d) (hkc : kc' ≤ kc) (hks : ks' ≤ ks) (hrest : (rest.map fun v => v.category).sum ≤ 8)
    (kk : ∀ v M', Q' v M' → J C M' (kc - kc') (ks - ks') (pc + 3) l (v.toList ++ rest)) (kx : ∀ E M', X' E M' → JX C M' (kc - kc') (ks - ks') pc l E) : J C M kc ks pc l st := by
  obtain ⟨p, e, R, s, m, args, below, meth, c, Qs, G⟩ := C
  obtain ⟨hx, hb, hr, hml, hown, hts, hlk, hnm, htb, hdf, hdl, hfl, hA⟩ := hC
  intro H locs cells slots ls h1 h2 h3 h4 h5 T hT X
  obtain ⟨⟨m1, m2, m3, m4, m5, m6⟩, m8, m9⟩ := hm
  subst hst
  have hhd : jHd y' = Cond.code y'.1 y'.2.1 y'.2.2.1 y'.2.2.2.1 := by
    obtain ⟨a1, b1, c1, e1, hh1⟩ := y'
    cases hh0
    rfl
  have hw : jW y' = Cond.code y'.1 y'.2.1 y'.2.2.1 y'.2.2.2.1 :: jWs := by unfold jW; rw [hhd]
  have hcb : CallB R s args y.1.cls idx y'.1 y'.2.1 y'.2.2.1 y'.2.2.2.1 (jW y') (jRm d' kc' ks') kc' ks' n := callB_of n hts (jW_good m1) hw rfl rfl (hts _ m2) (hts _ m8) ⟨m3, m4, m5⟩ ⟨by show d' + 1 ≤ R.frames; omega, by show 8 + (y'.2.2.1 + 11) + 46 * d' ≤ R.locals; omega⟩
  rcases vx_runS (cc := y.2.1) (nL := y.2.2.1) (Ts := jWs) (g := F0 m pc ls (As.reverse ++ rest)) ⟨hx, hb, hml, hown, hts⟩ hM ⟨hcb, hts _ m9⟩ ⟨jRel_amb_blind, fun U hU hW => ⟨rfl, by rw [hU]; exact hA.kept hW h2.1 h2.2.1, by rw [hU]; exact h1.moved hW.alike⟩⟩ rfl hn (h3.1.trans hml) rfl (lv_room hrest) hd ⟨by omega, by omega⟩ T hT X with ⟨v, st₀, t, T', L, e0, X', hL, e1, e2, ⟨v', M', hv, hQ, hR, hF⟩, stp⟩ | ⟨q, st₀, t, T', L, E, ce, e0, X', hL, e1, e2, ⟨M', hE, hR, hF⟩, hce, hcv, hcl, stp⟩
  · cases hv
    obtain ⟨b1, b2⟩ := jBack e0 e1 (by rw [← e2]; exact X'.warmed.alike) hL hR hF h2
    obtain ⟨t2, a1, a2⟩ := kk v M' hQ T'.heap (locs ++ L) (cells + kc') (slots + ks') ls b1 b2 h3 (by omega) (by omega) T' rfl X'
    exact ⟨t2, stp t2 a1, a2⟩
  · obtain ⟨b1, b2⟩ := jBack e0 e1 (by rw [← e2]; exact X'.warmed.alike) hL hR hF h2
    obtain ⟨t2, a1, a2⟩ := kx E M' hE T'.heap (locs ++ L) (cells + kc') (slots + ks') ls rest q ce b1 b2 h3 (by omega) (by omega) (by rw [e1]; exact hce) hcv hcl T' rfl X'
    exact ⟨t2, stp.trans a1, a2⟩
/-- a static call of a method with handlers -/
theorem j_callSH (hC : jOK0 y d C) {y' : jY} {idx n kc' ks' d' : Nat} {As rest : List Value} {Q' : Option Value → jM → Prop} (hm : jMs y.1.cls idx y' n) (h0 : Nat × Nat × Nat × Nat) (ht : List (Nat × Nat × Nat × Nat)) (hh0 : y'.2.2.2.2 = h0 :: ht) (hd : decode y.2.1 pc = .ok (.invokestatic idx, 3))
    (hM : JMet (jCG C) y' As M kc' ks' d' Q' jNo) (hn : As.length = n) (hst : st = As.reverse ++ rest) (hd1 : d' + 1 ≤ d) (hkc : kc' ≤ kc) (hks : ks' ≤ ks) (hrest : (rest.map fun v => v.category).sum ≤ 8)
    (kk : ∀ v M', Q' v M' → J C M' (kc - kc') (ks - ks') (pc + 3) l (v.toList ++ rest)) : J C M kc ks pc l st := by
  obtain ⟨p, e, R, s, m, args, below, meth, c, Qs, G⟩ := C
  obtain ⟨hx, hb, hr, hml, hown, hts, hlk, hnm, htb, hdf, hdl, hfl, hA⟩ := hC
  intro H locs cells slots ls h1 h2 h3 h4 h5 T hT X
  obtain ⟨⟨m1, m2, m3, m4, m5, m6⟩, m8, m9⟩ := hm
  subst hst
  have hhd : jHd y' = Cond.codeWith y'.1 y'.2.1 y'.2.2.1 y'.2.2.2.1 (h0 :: ht) := by
    obtain ⟨a1, b1, c1, e1, hh1⟩ := y'
    cases hh0
    rfl
  have hw : jW y' = Cond.codeWith y'.1 y'.2.1 y'.2.2.1 y'.2.2.2.1 (h0 :: ht) :: jWs := by unfold jW; rw [hhd]
  have hcw : vx_CSW R s args y.1.cls idx y'.1 y'.2.1 y'.2.2.1 y'.2.2.2.1 (h0 :: ht) (jW y') (jRm d' kc' ks') kc' ks' n := by
    refine ⟨⟨rfl, rfl, by show d' + 1 ≤ R.frames; omega, by show 8 + (y'.2.2.1 + 11) + 46 * d' ≤ R.locals; omega, pay_in hts (jW_good m1), by rw [hw]; exact List.mem_cons_self⟩, by rw [← hhd]; exact hts _ m1, hts _ m2, ⟨m3, m4⟩, fun sig h => ?_, hts _ m8, hts _ m9⟩
    rw [h] at m5
    exact (Option.some.inj m5).symm
  obtain ⟨v, st₀, t, T', L, e0, X', hL, e1, e2, ⟨v', M', hv, hQ, hR, hF⟩, stp⟩ := vx_runSW (cc := y.2.1) (nL := y.2.2.1) (Ts := jWs) (g := F0 m pc ls (As.reverse ++ rest)) ⟨hx, hb, hml, hown, hts⟩ (jMet_met hM) hcw ⟨jRel_amb_blind, fun U hU hW => ⟨rfl, by rw [hU]; exact hA.kept hW h2.1 h2.2.1, by rw [hU]; exact h1.moved hW.alike⟩⟩ rfl hn (h3.1.trans hml) rfl (lv_room hrest) hd ⟨by omega, by omega⟩ T hT X
  cases hv
  obtain ⟨b1, b2⟩ := jBack e0 e1 (by rw [← e2]; exact X'.warmed.alike) hL hR hF h2
  obtain ⟨t2, a1, a2⟩ := kk v M' hQ T'.heap (locs ++ L) (cells + kc') (slots + ks') ls b1 b2 h3 (by omega) (by omega) T' rfl X'
  exact ⟨t2, stp t2 a1, a2⟩
/-- a constructor -/
theorem j_callI (hC : jOK0 y d C) {y' : jY} {idx b n kc' ks' d' : Nat} {As rest : List Value} {Q' : Option Value → jM → Prop} (hm : jMi y.1.cls idx y' n) (hd : decode y.2.1 pc = .ok (.invokespecial idx, 3))
    (hM : JMet (jCG C) y' (.ref b :: As) M kc' ks' d' Q' jNo) (hn : As.length = n) (hst : st = As.reverse ++ .ref b :: rest) (hd1 : d' + 1 ≤ d) (hkc : kc' ≤ kc) (hks : ks' ≤ ks) (hrest : (rest.map fun v => v.category).sum ≤ 8)
    (kk : ∀ v M', Q' v M' → J C M' (kc - kc') (ks - ks') (pc + 3) l (v.toList ++ rest)) : J C M kc ks pc l st := by
  obtain ⟨p, e, R, s, m, args, below, meth, c, Qs, G⟩ := C
  obtain ⟨hx, hb, hr, hml, hown, hts, hlk, hnm, htb, hdf, hdl, hfl, hA⟩ := hC
  intro H locs cells slots ls h1 h2 h3 h4 h5 T hT X
  obtain ⟨⟨m1, m2, m3, m4, m5, m6⟩, m7, m8, m9, m10, m11⟩ := hm
  subst hst
  obtain ⟨ya, yb, yc, yd, yh⟩ := y'
  dsimp only at m7 m8
  subst m7
  subst m8
  have hcb : CallB R s args y.1.cls idx ya yb yc none (jW (ya, yb, yc, none, [])) (jRm d' kc' ks') kc' ks' n := callB_of n hts (jW_good m1) rfl rfl rfl (hts _ m2) (hts _ m10) ⟨m3, m4, m5⟩ ⟨by show d' + 1 ≤ R.frames; omega, by show 8 + (yc + 11) + 46 * d' ≤ R.locals; dsimp only at m6; omega⟩
  obtain ⟨v, st₀, t, T', L, e0, X', hL, e1, e2, ⟨v', M', hv, hQ, hR, hF⟩, stp⟩ := va_runI (cc := y.2.1) (nL := y.2.2.1) (Ts := jWs) (g := F0 m pc ls (As.reverse ++ .ref b :: rest)) ⟨hx, hb, hml, hown, hts⟩ (jMet_met hM) ⟨hcb, m9, hts _ m11⟩ ⟨jRel_amb_blind, fun U hU hW => ⟨rfl, by rw [hU]; exact hA.kept hW h2.1 h2.2.1, by rw [hU]; exact h1.moved hW.alike⟩⟩ rfl hn (h3.1.trans hml) rfl (lv_room hrest) hd ⟨by omega, by omega⟩ T hT X
  cases hv
  obtain ⟨b1, b2⟩ := jBack e0 e1 (by rw [← e2]; exact X'.warmed.alike) hL hR hF h2
  obtain ⟨t2, a1, a2⟩ := kk v M' hQ T'.heap (locs ++ L) (cells + kc') (slots + ks') ls b1 b2 h3 (by omega) (by omega) T' rfl X'
  exact ⟨t2, stp t2 a1, a2⟩
/-- Object.<init> -/
theorem j_obj (hC : jOK0 y d C) {idx a : Nat} (hl : Cond.methodLink y.1.cls idx objectInit ∈ jWs) (hi : Cond.instanceMethod objectInit ∈ jWs) (hc : Cond.code objectInit ⟨#[0xb1]⟩ 1 none ∈ jWs) (hd : decode y.2.1 pc = .ok (.invokespecial idx, 3)) (hd1 : 1 ≤ d) (hrest : (st.map fun v => v.category).sum ≤ 8) (kk : J C M kc ks (pc + 3) l st) : J C M kc ks pc l (.ref a :: st) := by
  obtain ⟨p, e, R, s, m, args, below, meth, c, Qs, G⟩ := C
  obtain ⟨hx, hb, hr, hml, hown, hts, hlk, hnm, htb, hdf, hdl, hfl, hA⟩ := hC
  intro H locs cells slots ls h1 h2 h3 h4 h5
  refine W.objInit hx hb hown (hts _ hl) (hts _ hi) (hts _ hc) rfl h3.1 rfl hd (by omega) ?_ (kk H locs cells slots ls h1 h2 h3 h4 h5)
  have h9 := lv_room (m := m) (pc := pc) (ls := ls) (rest := (.ref a :: st)) hrest
  omega
/-- a throw goes on to the caller -/
theorem jx_out (hC : jOK y d C Q X) {E : String} (hh : y.2.2.2.2 = []) (hq : X E M) : JX C M kc ks pc l E := by
  obtain ⟨p, e, R, s, m, args, below, meth, c, Qs, G⟩ := C
  obtain ⟨⟨hx, hb, hr, hml, hown, hts, hlk, hnm, htb, hdf, hdl, hfl, hA⟩, rfl⟩ := hC
  intro H locs cells slots ls rest q ce h1 h2 h3 h4 h5 hce hcv hcl
  rw [hh] at htb
  exact vx_out (fun x hx9 => by rw [htb] at hx9; cases hx9) hlk hce hcv hcl (fun t ht hal => ⟨M, hq, by rw [ht]; exact h1.moved hal, h2.F ht⟩) h2.2.2 (by omega) (by omega)
theorem j_throwS (hC : jOK y d C Q X) {ik is ic i : Nat} {E text : String} (hh : y.2.2.2.2 = []) (ht : jTh y.1.cls ik ic E) (hs : jCs[i]? = some (y.1.cls, is, text)) (d0 : decode y.2.1 pc = .ok (.new ik, 3)) (d3 : decode y.2.1 (pc + 3) = .ok (.dup, 1)) (d4 : decode y.2.1 (pc + 4) = .ok (.ldc is, 2)) (d6 : decode y.2.1 (pc + 6) = .ok (.invokespecial ic, 3)) (d9 : decode y.2.1 (pc + 9) = .ok (.athrow, 1))
    (hd1 : 6 ≤ d) (hkc : 1 ≤ kc) (hks : 6 ≤ ks) (hrest : (st.map fun v => v.category).sum ≤ 8) (hq : ∀ n, X E (M.1, n)) : J C M kc ks pc l st := by
  obtain ⟨p, e, R, s, m, args, below, meth, c, Qs, G⟩ := C
  obtain ⟨⟨hx, hb, hr, hml, hown, hts, hlk, hnm, htb, hdf, hdl, hfl, hA⟩, rfl⟩ := hC
  intro H locs cells slots ls h1 h2 h3 h4 h5
  obtain ⟨t1, t2, t3, t4, t5, t6, t7⟩ := ht
  rw [hh] at htb
  refine vx_throwS (A := jA G) (names := ["java/lang/RuntimeException", "java/lang/Exception"]) hx hb hfl hown t1 (by decide +kernel) (hts _ t3) (hts _ t4) (hA.2.2.2.2.2.1 i _ hs) (vx_hat (B := jBad E) (fun w hw => hts w (t5 w hw)) t6 (jBad_of hA t2)) t7 hA.2.2.2.1.1 hA.2.2.2.1.2 h2 h3.1 d0 d3 d4 d6 d9 (fun x hx9 => by rw [htb] at hx9; cases hx9) (by simp; omega) (by simp; omega) (by omega) (by omega) hlk ?_ h2.2.2 (by omega) (by omega)
  intro t hal hz hq9
  refine ⟨(M.1, t.heap.size), hq _, ⟨rfl, fun a o ha => ?_⟩, ?_⟩
  · have h9 := h1.2 a o ha
    exact (h9.kept (hq9 a h9.lt)).moved hal
  · exact ⟨Nat.le_trans h2.1 hz, fun q g1 g2 => (hq9 q (Nat.lt_of_lt_of_le g1 h2.1)).trans (h2.2.1 q g1 g2)⟩
theorem j_throwSW (hC : jOK y d C Q X) {ik is ic i : Nat} {E text : String} (hh : y.2.2.2.2 = []) (ht : jTh y.1.cls ik ic E) (hs : jCs[i]? = some (y.1.cls, is, text)) (d0 : decode y.2.1 pc = .ok (.new ik, 3)) (d3 : decode y.2.1 (pc + 3) = .ok (.dup, 1)) (d4 : decode y.2.1 (pc + 4) = .ok (.ldc_w is, 3)) (d7 : decode y.2.1 (pc + 7) = .ok (.invokespecial ic, 3)) (d10 : decode y.2.1 (pc + 10) = .ok (.athrow, 1))
    (hd1 : 6 ≤ d) (hkc : 1 ≤ kc) (hks : 6 ≤ ks) (hrest : (st.map fun v => v.category).sum ≤ 8) (hq : ∀ n, X E (M.1, n)) : J C M kc ks pc l st := by
  obtain ⟨p, e, R, s, m, args, below, meth, c, Qs, G⟩ := C
  obtain ⟨⟨hx, hb, hr, hml, hown, hts, hlk, hnm, htb, hdf, hdl, hfl, hA⟩, rfl⟩ := hC
  intro H locs cells slots ls h1 h2 h3 h4 h5
  obtain ⟨t1, t2, t3, t4, t5, t6, t7⟩ := ht
  rw [hh] at htb
  refine vx_throwSW (A := jA G) (names := ["java/lang/RuntimeException", "java/lang/Exception"]) hx hb hfl hown t1 (by decide +kernel) (hts _ t3) (hts _ t4) (hA.2.2.2.2.2.1 i _ hs) (vx_hat (B := jBad E) (fun w hw => hts w (t5 w hw)) t6 (jBad_of hA t2)) t7 hA.2.2.2.1.1 hA.2.2.2.1.2 h2 h3.1 d0 d3 d4 d7 d10 (fun x hx9 => by rw [htb] at hx9; cases hx9) (by simp; omega) (by simp; omega) (by omega) (by omega) hlk ?_ h2.2.2 (by omega) (by omega)
  intro t hal hz hq9
  refine ⟨(M.1, t.heap.size), hq _, ⟨rfl, fun a o ha => ?_⟩, ?_⟩
  · have h9 := h1.2 a o ha
    exact (h9.kept (hq9 a h9.lt)).moved hal
  · exact ⟨Nat.le_trans h2.1 hz, fun q g1 g2 => (hq9 q (Nat.lt_of_lt_of_le g1 h2.1)).trans (h2.2.1 q g1 g2)⟩
/-- caught by the row x of the method's table -/
theorem jx_catch (hC : jOK0 y d C) {E : String} (hE : E ∈ jExs) (pre : List ExceptionTableEntry) (x : ExceptionTableEntry) (suf : List ExceptionTableEntry) (hsp : tableOf y.2.2.2.2 = pre ++ x :: suf) (hpass : ∀ z ∈ pre, z.catchType ≠ 0 ∧ ∃ nm ∈ jExs, Cond.classLink y.1.cls z.catchType nm ∈ jWs ∧ E ≠ nm) (hx1 : covers x pc = true) (hx2 : x.catchType ≠ 0) (hx3 : Cond.classLink y.1.cls x.catchType E ∈ jWs) (kk : ∀ q, J C M kc ks x.handlerPc l [.ref q]) : JX C M kc ks pc l E := by
  obtain ⟨p, e, R, s, m, args, below, meth, c, Qs, G⟩ := C
  obtain ⟨hx, hb, hr, hml, hown, hts, hlk, hnm, htb, hdf, hdl, hfl, hA⟩ := hC
  intro H locs cells slots ls rest q ce h1 h2 h3 h4 h5 hce hcv hcl
  refine vx_catch hown pre x suf (htb.trans hsp) (fun z hz => ?_) hx1 hx2 (hts _ hx3) (va_Nw.use rfl (hA.2.2.2.2.2.2.1 E hE).1) hce hcv hcl (kk q H locs cells slots ls h1 h2 h3 h4 h5)
  obtain ⟨a1, nm, a2, a3, a4⟩ := hpass z hz
  exact Or.inr ⟨a1, nm, hts _ a3, (hA.2.2.2.2.2.2.1 E hE).2 nm a2 a4⟩
end JR
