/-! NoSuchElementException("text"): its constructor finds its super's by the place 13, where the kit's row wants 7; the walk goes as the library's own (BundleOwnThrow.lean), by the same laws, over words of its own -/
def jNsC : String := "java/util/NoSuchElementException"
def jNsW : List Cond := Bundle.throwableAtoms ++ Bundle.throwableSAtoms ++ Bundle.passSAtoms jNsC "java/lang/RuntimeException" 13 prog_41_method_4_code ++ Bundle.chainSAtoms "java/lang/RuntimeException" ["java/lang/Exception"] ++
  [.methodLink RX9 173 (Bundle.initS jNsC), .instantiable jNsC 6, .castable jNsC jNsC, .selects jNsC Bundle.tFill0 Bundle.tFill0, .selects jNsC Bundle.tFill Bundle.tFill,
   .lays jNsC Bundle.tN "cause" "Ljava/lang/Throwable;", .lays jNsC Bundle.tN "stackTrace" Bundle.steD, .lays jNsC Bundle.tN "suppressedExceptions" Bundle.listD, .lays jNsC Bundle.tN "detailMessage" "Ljava/lang/String;",
   .isRef (.static Bundle.tN "UNASSIGNED_STACK" Bundle.steD), .isRef (.static Bundle.tN "SUPPRESSED_SENTINEL" Bundle.listD),
   .fieldLink Bundle.tN 198 Bundle.tN "backtrace" "Ljava/lang/Object;", .lays Bundle.tN Bundle.tN "backtrace" "Ljava/lang/Object;", .lays jNsC Bundle.tN "backtrace" "Ljava/lang/Object;"]
theorem jNs_thr {w : Cond} (h : w ∈ Bundle.throwableAtoms) : w ∈ jNsW := List.mem_append_left _ (List.mem_append_left _ (List.mem_append_left _ (List.mem_append_left _ h)))
theorem jNs_thrS {w : Cond} (h : w ∈ Bundle.throwableSAtoms) : w ∈ jNsW := List.mem_append_left _ (List.mem_append_left _ (List.mem_append_left _ (List.mem_append_right _ h)))
theorem jNs_pass {w : Cond} (h : w ∈ Bundle.passSAtoms jNsC "java/lang/RuntimeException" 13 prog_41_method_4_code) : w ∈ jNsW := List.mem_append_left _ (List.mem_append_left _ (List.mem_append_right _ h))
theorem jNs_chain {w : Cond} (h : w ∈ Bundle.chainSAtoms "java/lang/RuntimeException" ["java/lang/Exception"]) : w ∈ jNsW := List.mem_append_left _ (List.mem_append_right _ h)
theorem jNs_own {w : Cond} (i : Nat) (h : ([.methodLink RX9 173 (Bundle.initS jNsC), .instantiable jNsC 6, .castable jNsC jNsC, .selects jNsC Bundle.tFill0 Bundle.tFill0, .selects jNsC Bundle.tFill Bundle.tFill,
   .lays jNsC Bundle.tN "cause" "Ljava/lang/Throwable;", .lays jNsC Bundle.tN "stackTrace" Bundle.steD, .lays jNsC Bundle.tN "suppressedExceptions" Bundle.listD, .lays jNsC Bundle.tN "detailMessage" "Ljava/lang/String;",
   .isRef (.static Bundle.tN "UNASSIGNED_STACK" Bundle.steD), .isRef (.static Bundle.tN "SUPPRESSED_SENTINEL" Bundle.listD),
   .fieldLink Bundle.tN 198 Bundle.tN "backtrace" "Ljava/lang/Object;", .lays Bundle.tN Bundle.tN "backtrace" "Ljava/lang/Object;", .lays jNsC Bundle.tN "backtrace" "Ljava/lang/Object;"] : List Cond)[i]? = some w) : w ∈ jNsW := List.mem_append_right _ (List.mem_of_getElem? h)
section JN
variable {p : Program} {l : Launch} {e : Env} {R : Room} {s : State} {m : MethodId} {args : Array Value} {below : List Frame} {meth : Method} {c : Code} {W9 : State} {locs : List Loc} {cells slots : Nat}
set_option maxHeartbeats 4000000 in
theorem jNs_ctor (X : Stand p l e R s m args below meth c W9 locs cells slots) (hexec : p.tables.exec = Jvm.exec) (htr : e.platform.stackTraces = false) (hown : s.vm.findClass RX9 = some m.cls) (h : ∀ w ∈ jNsW, w.before args s = true) (hlocs : ∀ x ∈ locs, ∀ cell, s.heap[x.base]? = some cell → cell.vm.isStatics = false)
    {a : Addr} {cX : ClassId} {kX : Class} (hfoundX : s.vm.findClass jNsC = some cX) (hkX : s.vm.classes[cX]? = some kX) (hcell : W9.heap[a]? = some (freshCell cX kX)) (hnew : s.heap.size ≤ a) {msg : Value} (hmsg : msg.isRef = true)
    {g : JFrame} (hg : g.method = m) (hsize : g.locals.size = c.maxLocals) (hlocked : g.locked = none) (hentered : g.entered = []) {rest : List Value} (hstack : g.stack = msg :: .ref a :: .ref a :: rest)
    (hd6 : decode c.code g.pc = .ok (.invokespecial 173, 3)) (hd9 : decode c.code (g.pc + 3) = .ok (.athrow, 1)) (hout : ∀ x ∈ c.exceptionTable.toList, covers x (g.pc + 3) = false)
    (hRframes : 5 < R.frames) (hRlocals : 2 * g.monitorRoom + ((Value.ref a :: rest).map fun v => v.category).sum + (13 * 3 + 42) ≤ R.locals) (hlocks : meth.locks = false) :
    ∃ U : State, Steps p.tables e below (W9.setTop g) U ∧ U.status = .running ∧ Ended U below (.threw a) ∧ s.WarmedH U.vm ∧ s.sameButNew ({ U with vm := s.vm } : State) locs cells slots ∧ ∃ ce, U.heap[a]? = some ce ∧ ce.cls = cX ∧ ce.vm = .none := by
  have howns : e.platform.frameOwnsMonitors = true := by rw [X.admits.platform]
  have hfin : e.platform.finalization = false := by rw [X.admits.platform]
  have hpl : e.platform.magicAccessors = ({} : Platform).magicAccessors := by rw [X.admits.platform]
  have hh : ∀ x, x ∈ jNsW → x.holds args s none s [] = true := fun x hx => h x hx
  obtain ⟨T, Z0, L, -, Y⟩ := ThrowableC.of_atoms (args := args) howns hfin hpl (fun x hx => h x (jNs_thr hx))
  obtain ⟨Z, M, LZ, LM, hnZ⟩ := Init0T.ofS_atoms (args := args) hpl L Y (fun x hx => h x (jNs_thrS hx))
  obtain ⟨P0, L0, hP0m, hs0⟩ := PassC.ofS_atoms (args := args) (s := s) hpl (X := jNsC) (Y := "java/lang/RuntimeException") (by decide) (by decide) (index := 13) (bytes := prog_41_method_4_code) (by decide +kernel) (by decide +kernel) (by decide +kernel) (by decide +kernel) (fun x hx => h x (jNs_pass hx))
  obtain ⟨P1, Ps, hlen, L1, hL, hP1m, hlink1, hlink⟩ := Bundle.chainS (args := args) hpl hnZ ["java/lang/Exception"] "java/lang/RuntimeException" (by decide) (by decide) (fun x hx => h x (jNs_chain hx))
  have hlk0 : P0.sup = P1.m := Option.some.inj (hs0.symm.trans hP1m)
  have hfound : s.vm.findClass jNsC = some P0.m.cls := findClass_of_methodNamed hP0m
  cases Option.some.inj (hfoundX.symm.trans hfound)
  obtain ⟨c1, kX', hc1, hk, hord, -, -, hn6⟩ := Cond.instantiable_spec (hh (.instantiable jNsC 6) (jNs_own 1 rfl))
  cases Option.some.inj (hc1.symm.trans hfound)
  cases Option.some.inj (hkX.symm.trans hk)
  have hsel0 : selectMethod e.platform s.vm P0.m.cls T.fill0 = .method T.fill0 := by
    obtain ⟨c2, r2, m2, q1, q2, q3, q4, -⟩ := Cond.selects_spec (hh (.selects jNsC Bundle.tFill0 Bundle.tFill0) (jNs_own 3 rfl))
    cases Option.some.inj (q1.symm.trans hfound)
    cases Option.some.inj (q2.symm.trans (State.methodFound?_of_named Y.fill0 (by decide)))
    cases Option.some.inj (q3.symm.trans Y.fill0)
    rw [Launch.admits_selectMethod X.admits]; exact q4
  have hselF : selectMethod e.platform s.vm P0.m.cls T.fill = .method T.fill := by
    obtain ⟨c2, r2, m2, q1, q2, q3, q4, -⟩ := Cond.selects_spec (hh (.selects jNsC Bundle.tFill Bundle.tFill) (jNs_own 4 rfl))
    cases Option.some.inj (q1.symm.trans hfound)
    cases Option.some.inj (q2.symm.trans (State.methodFound?_of_named Y.fill (by decide)))
    cases Option.some.inj (q3.symm.trans Y.fill)
    rw [Launch.admits_selectMethod X.admits]; exact q4
  obtain ⟨cellS0, hcS0, hiss⟩ := Y.statics
  obtain ⟨u0, hu0⟩ := Cond.staticRefV Y.unassigned L.unassignedStatic L.statics hcS0 hiss (hh _ (jNs_own 9 rfl))
  obtain ⟨sen, hsen⟩ := Cond.staticRefV Y.sentinel L.sentinelStatic L.statics hcS0 hiss (hh _ (jNs_own 10 rfl))
  obtain ⟨ci198, i198, fB, hk198, hg198, ha198, hsB, -, hnB, htB, hffB⟩ := Cond.ownField (t := .object "java/lang/Object") Y.found L.cls (by decide +kernel) (hh _ (jNs_own 11 rfl)) (hh _ (jNs_own 12 rfl)) e.platform hpl
  obtain ⟨cellS, hcS', heS, -, hkeep⟩ := X.same.2.2.2.2.2 T.aS cellS0 hcS0
  have hcellS : W9.heap[T.aS]? = some cellS := hcS'
  have hout' : ∀ i, (⟨T.aS, i⟩ : Loc) ∉ locs := fun i hmem => by
    have := hlocs _ hmem cellS0 hcS0
    rw [hiss] at this; cases this
  have hknownS : cellS.vm ≠ .unknown := by
    rw [heS]; intro hu
    rw [show cellS0.vm = .unknown from hu] at hiss
    cases hiss
  have hneS : T.aS ≠ a := Nat.ne_of_lt (Nat.lt_of_lt_of_le (Array.getElem?_eq_some_iff.mp hcS0).1 hnew)
  obtain ⟨iM, hffM⟩ := Y.msg
  obtain ⟨tyC, dC, hdC, hdnC⟩ := Cond.laysAt hfound hk Y.cause (hh _ (jNs_own 5 rfl))
  obtain ⟨tyS, dS, hdS, hdnS⟩ := Cond.laysAt hfound hk Y.stack (hh _ (jNs_own 6 rfl))
  obtain ⟨tyP, dP, hdP, hdnP⟩ := Cond.laysAt hfound hk Y.supp (hh _ (jNs_own 7 rfl))
  obtain ⟨tyM, dM, hdM, hdnM⟩ := Cond.laysAt hfound hk hffM (hh _ (jNs_own 8 rfl))
  obtain ⟨tyB, dB, hdB, hdnB⟩ := Cond.laysAt hfound hk hffB (hh _ (jNs_own 13 rfl))
  have bC := Cond.laysApart hdB hdC hdnB hdnC (by rw [hnB, Y.causeName]; decide)
  have bS := Cond.laysApart hdB hdS hdnB hdnS (by rw [hnB, Y.stackName]; decide)
  have bP := Cond.laysApart hdB hdP hdnB hdnP (by rw [hnB, Y.suppName]; decide)
  have hskip : SkipFacts T e.platform s (fun u => u) u0 ((preparedCellV T.toThrowableT (freshCell P0.m.cls kX) a u0 sen).withEntry W9.cur) :=
    ⟨{ ci198 := ci198, i198 := i198, fBack := fB }, ⟨hk198, hg198, ha198, hsB⟩, by
      have := fresh_default (c := P0.m.cls) tyB
      rw [htB] at this
      simpa [preparedCellV, Cell.setSlot, Cell.withEntry, Array.getElem?_setIfInBounds, bC, bS, bP, bC.symm, bS.symm, bP.symm, defaultValue] using this, fun _ _ => rfl⟩
  obtain ⟨tm, methC, cdC, kC, vm₁, hnC, -, -, -, -, -, -, -, hW₁, st1⟩ := Steps.initColdS (tb := p.tables) (e := e) (below := below) (s := s) (U := W9) X.here hexec X.warmed hpl hown (t := Bundle.initS jNsC) rfl rfl (by decide)
    (hh _ (jNs_own 0 rfl)) (h (.instanceMethod (Bundle.initS jNsC)) (jNs_pass List.mem_cons_self)) (bytes := prog_41_method_4_code) (maxL := 2) (h (.code (Bundle.initS jNsC) prog_41_method_4_code 2 none) (jNs_pass (List.mem_cons_of_mem _ List.mem_cons_self)))
    (f := g) hg (a := a) (msg := msg) (rest := .ref a :: rest) hstack hd6
  cases Option.some.inj (hnC.symm.trans hP0m)
  have X₁ := X.noted hW₁
  have hl2 : (P1 :: Ps).length = 2 := by simp [hlen]
  obtain ⟨vm₂, X₂, st2⟩ := X₁.ctorMessageOffV hexec (g := { g with stack := .ref a :: rest }) hg hsize T L Z LZ M LM (P0 :: P1 :: Ps)
    (fun P hP => by rcases List.mem_cons.mp hP with rfl | hP; exact L0; rcases List.mem_cons.mp hP with rfl | hP; exact L1; exact hL P hP) ⟨hlk0, hlink1, hlink⟩ (u0 := u0) (sen := sen) (self := a) hmsg (cell := freshCell P0.m.cls kX) (cellS := cellS)
    hcell (fun _ => by simp) (by simp) rfl rfl hsel0 hselF hcellS hneS hknownS (by rw [hkeep _ (hout' _)]; exact hu0) (by rw [hkeep _ (hout' _)]; exact hsen)
    (Takes.of_laid hk hord tyC (by rw [Y.causeType]; rfl)) (Takes.of_laid hk hord tyS (by rw [Y.stackType]; exact fits_refV_array _ u0)) (Takes.of_laid hk hord tyP (by rw [Y.suppType]; exact fits_refV_object _ sen))
    (Takes.of_laid hk hord tyM (by rw [Y.msgType]; exact fits_refV_object _ ⟨msg, hmsg⟩)) Y.objLocals hskip htr [] hd6
    (by simp only [List.length_cons, hlen, List.length_nil]; omega) (by simp only [List.length_cons, hlen, List.length_nil]; exact hRlocals)
  obtain ⟨hwalk, hrun, hended, hWU, hsame⟩ := X₂.athrowLeaves hexec (g := { g with stack := .ref a :: rest, pc := g.pc + 3 }) hg hlocked hentered hout (a := a) (rest := rest) rfl hd9
  have hlt : a < ((W9.setVm vm₁).setVm vm₂).heap.size := (Array.getElem?_eq_some_iff.mp hcell).1
  have hU := heapAt_setCell_self (s := (W9.setVm vm₁).setVm vm₂) (plainBareV T.toThrowableT (freshCell P0.m.cls kX) a u0 sen msg) hlt
  refine ⟨_, st1 _ (fun acts => ?_), hrun, hended, hWU, hsame.weaken (fun y hy hlt' => ?_) (Nat.le_refl _) (Nat.le_refl _), _, hU, rfl, rfl⟩
  · rw [doInvoke_state]
    exact st2 _ hwalk
  · rcases List.mem_append.mp hy with h1 | h1
    · exact h1
    · exfalso
      have hb : y.base = a := by
        simp only [List.mem_cons, List.not_mem_nil, or_false] at h1
        rcases h1 with rfl | rfl | rfl | rfl | rfl <;> rfl
      rw [hb] at hlt'
      exact Nat.not_lt.mpr hnew hlt'
end JN
set_option maxRecDepth 100000 in
theorem jNs_hat : (∀ w ∈ (jNsW.filter vx_no).filter goodWord, w ∈ jWs) ∧ (∀ w ∈ (jNsW.filter vx_no).filter (fun w => !goodWord w), w ∈ jBad jNsC) ∧ (∀ w ∈ Cond.classLink RX9 169 jNsC :: Cond.initialized jNsC :: jNsW.filter vx_no, vx_ot w = true) := ⟨by decide +kernel, by decide +kernel, by decide +kernel⟩
theorem kt_X9_169 : Cond.classLink RX9 169 jNsC ∈ jWs := jWs_of 1000 (by decide +kernel) rfl
theorem kt_X9_169i : Cond.initialized jNsC ∈ jWs := jWs_of 102 (by decide +kernel) rfl
set_option maxHeartbeats 4000000 in
theorem j_throwN {C : jC} {y : jY} {d : Nat} {M : jM} {kc ks pc : Nat} {l : List (Option Value)} {st : List Value} {Q : Option Value → jM → Prop} {X : String → jM → Prop} (hC : jOK y d C Q X) {is i : Nat} {text : String} (hy : y.1.cls = RX9) (hh : y.2.2.2.2 = []) (hs : jCs[i]? = some (RX9, is, text)) (d0 : decode y.2.1 pc = .ok (.new 169, 3)) (d3 : decode y.2.1 (pc + 3) = .ok (.dup, 1)) (d4 : decode y.2.1 (pc + 4) = .ok (.ldc is, 2)) (d6 : decode y.2.1 (pc + 6) = .ok (.invokespecial 173, 3)) (d9 : decode y.2.1 (pc + 9) = .ok (.athrow, 1))
    (hd1 : 6 ≤ d) (hkc : 1 ≤ kc) (hks : 6 ≤ ks) (hrest : (st.map fun v => v.category).sum ≤ 8) (hq : ∀ n, X jNsC (M.1, n)) : J C M kc ks pc l st := by
  obtain ⟨p, e, R, s, m, args, below, meth, c, Qs, G⟩ := C
  obtain ⟨⟨hx, hb, hr, hml, hown, hts, hlk, hnm, htb, hdf, hdl, hfl, hA⟩, rfl⟩ := hC
  intro H locs cells slots ls h1 h2 h3 h4 h5 T hT X0
  rw [hh] at htb
  rw [hy] at hown
  have htr : e.platform.stackTraces = false := (show e.platform.stackTraces = (gL G).stackTraces by rw [X0.admits.platform]).trans hfl
  have Y := vx_rebase X0 (R' := { frames := R.frames, locals := R.locals, cells := 1, slots := 6 }) (Nat.le_refl _) (Nat.le_refl _) (by show cells + 1 ≤ R.cells; omega) (by show slots + 6 ≤ R.slots; omega)
  obtain ⟨s', hA9⟩ : ∃ z, z = (T.setVm s.vm).setFrames (.invoking m args :: below) := ⟨_, rfl⟩
  rw [← hA9] at Y
  have hvm : s'.vm = s.vm := by rw [hA9]; rfl
  have hhp : s'.heap = H := by rw [hA9]; exact hT
  have hW0 : s.WarmedH s'.vm := by rw [hvm]; exact State.WarmedH.refl s
  have hA' : jAmb G s' s'.heap := by rw [hhp]; exact hA.kept hW0 h2.1 h2.2.1
  have hat : ∀ w ∈ jNsW.filter vx_no, w.before args s = true := vx_hat (B := jBad jNsC) (fun w hw => hts w (jNs_hat.1 w hw)) jNs_hat.2.1 (jBad_of hA (by decide))
  have hat' : ∀ w ∈ jNsW.filter vx_no, w.before args s' = true := fun w hw => vx_ot_at hW0 hvm.symm (jNs_hat.2.2 w (List.mem_cons_of_mem _ (List.mem_cons_of_mem _ hw))) (hat w hw)
  have hk' : (Cond.classLink RX9 169 jNsC).before args s' = true := vx_ot_at hW0 hvm.symm (jNs_hat.2.2 _ List.mem_cons_self) (hts _ kt_X9_169)
  have hini' : (Cond.initialized jNsC).before args s' = true := vx_ot_at hW0 hvm.symm (jNs_hat.2.2 _ (List.mem_cons_of_mem _ List.mem_cons_self)) (hts _ kt_X9_169i)
  have h : ∀ w ∈ jNsW, w.before args s' = true := vx_own hat' (vx_isRefq hA'.2.2.2.1.1.1) (vx_isRefq hA'.2.2.2.1.2.1) hA'.2.2.2.1.1.2.word hA'.2.2.2.1.2.2.word
  have hown' : s'.vm.findClass RX9 = some m.cls := by rw [hvm]; exact hown
  have hins : (Cond.instantiable jNsC 6).before args s' = true := h _ (jNs_own 1 rfl)
  obtain ⟨vm₁, cX, kX, hfX, hkX, -, -, X₁, st1⟩ := Y.newCold hx (own := RX9) (C := jNsC) (index := 169) (n := 6) hown' hk' hins hini'
    (g := F0 m pc ls st) rfl (by rw [hb]; exact d0) (Nat.le_refl _) (Nat.le_refl _)
  generalize hT1 : (T.setVm vm₁).pushCell { cls := cX, slots := kX.instanceTypes.map defaultValue, vm := .none } = T1 at X₁ st1
  have hcat : (Value.ref T.heap.size).category = 1 := rfl
  have hcellA : T1.heap[T.heap.size]? = some (freshCell cX kX) := by rw [← hT1]; exact State.heap_pushCell_size _ _
  have d3' : decode c.code (pc + 3) = .ok (.dup, 1) := by rw [hb]; exact d3
  have d4' : decode c.code (pc + 4) = .ok (.ldc is, 2) := by rw [hb]; exact d4
  have hstr' : vk_R RX9 is text (gK G i) s' := hA'.2.2.2.2.2.1 i _ hs
  have hmr := lv_room (m := m) (pc := pc) (ls := ls) (rest := st) hrest
  obtain ⟨U, hsteps, hrun, hend, hW, hsame, ce, hce, hcc, hcv⟩ := jNs_ctor X₁ hx htr hown' h (fun x hx => nomatch hx) hfX hkX hcellA (by rw [hhp, hT]; exact Nat.le_refl _) (msg := .ref (gK G i)) rfl
    (g := { method := m, pc := pc + 6, locals := ls, stack := .ref (gK G i) :: .ref T.heap.size :: .ref T.heap.size :: st, locked := none }) rfl h3.1 rfl rfl (rest := st) rfl
    (by rw [hb]; exact d6) (by rw [hb]; exact d9) (fun x hx9 => by rw [htb] at hx9; cases hx9) (by show 5 < R.frames; omega) (by show 2 * 0 + _ + _ ≤ R.locals; simp only [List.map_cons, List.sum_cons, hcat]; omega) hlk
  obtain ⟨f1, f2⟩ := vx_frame hsame
  rw [hhp] at f1 f2
  have hWs : s.WarmedH U.vm := State.WarmedH.trans hW0 hW
  have hcl : s.vm.findClass jNsC = some ce.cls := by rw [hcc, ← hvm]; exact hfX
  have hall : s.sameButNew ({ U with vm := s.vm } : State) locs R.cells R.slots := by
    subst hA9
    obtain ⟨e1, e2⟩ := hsame
    rw [State.setFrames_setFrames] at e1
    have g2 : (T.setVm s.vm).sameButNew ({ U with vm := s.vm } : State) [] (0 + 1) (0 + 6) := ⟨e1, e2⟩
    have g3 := X0.same.trans g2
    rw [List.append_nil] at g3
    exact g3.mono (by omega) (by omega)
  refine ⟨U, ?_, .threw T.heap.size, hrun, hend, Or.inr ⟨T.heap.size, rfl, jNsC, ce, locs, ⟨(M.1, U.heap.size), hq _, ⟨rfl, fun a o ha => ?_⟩, ?_⟩, hce, hcv, hcl, hWs, hall, h2.2.2⟩⟩
  · refine st1 _ ?_
    show Steps p.tables e below (T1.setTop { method := m, pc := pc + 3, locals := ls, stack := .ref T.heap.size :: st, locked := none }) _
    jvm_step X₁.here [X₁.here.top, hx, d3', Value.category]
    exact X₁.ldcString hx (own := RX9) (text := text) (index := is) (a := gK G i) hown' hstr'.1 hstr'.2
      (g := { method := m, pc := pc + 4, locals := ls, stack := .ref T.heap.size :: .ref T.heap.size :: st, locked := none }) rfl d4' _ hsteps
  · have h9 := h1.2 a o ha
    exact (h9.kept (f2 a h9.lt (fun z hz => nomatch hz))).moved hWs.alike
  · exact ⟨Nat.le_trans h2.1 f1, fun q g1 g2 => (f2 q (Nat.lt_of_lt_of_le g1 h2.1) (fun z hz => nomatch hz)).trans (h2.2.1 q g1 g2)⟩

set_option maxHeartbeats 4000000 in
theorem j_throwNW {C : jC} {y : jY} {d : Nat} {M : jM} {kc ks pc : Nat} {l : List (Option Value)} {st : List Value} {Q : Option Value → jM → Prop} {X : String → jM → Prop} (hC : jOK y d C Q X) {is i : Nat} {text : String} (hy : y.1.cls = RX9) (hh : y.2.2.2.2 = []) (hs : jCs[i]? = some (RX9, is, text)) (d0 : decode y.2.1 pc = .ok (.new 169, 3)) (d3 : decode y.2.1 (pc + 3) = .ok (.dup, 1)) (d4 : decode y.2.1 (pc + 4) = .ok (.ldc_w is, 3)) (d6 : decode y.2.1 (pc + 7) = .ok (.invokespecial 173, 3)) (d9 : decode y.2.1 (pc + 10) = .ok (.athrow, 1))
    (hd1 : 6 ≤ d) (hkc : 1 ≤ kc) (hks : 6 ≤ ks) (hrest : (st.map fun v => v.category).sum ≤ 8) (hq : ∀ n, X jNsC (M.1, n)) : J C M kc ks pc l st := by
  obtain ⟨p, e, R, s, m, args, below, meth, c, Qs, G⟩ := C
  obtain ⟨⟨hx, hb, hr, hml, hown, hts, hlk, hnm, htb, hdf, hdl, hfl, hA⟩, rfl⟩ := hC
  intro H locs cells slots ls h1 h2 h3 h4 h5 T hT X0
  rw [hh] at htb
  rw [hy] at hown
  have htr : e.platform.stackTraces = false := (show e.platform.stackTraces = (gL G).stackTraces by rw [X0.admits.platform]).trans hfl
  have Y := vx_rebase X0 (R' := { frames := R.frames, locals := R.locals, cells := 1, slots := 6 }) (Nat.le_refl _) (Nat.le_refl _) (by show cells + 1 ≤ R.cells; omega) (by show slots + 6 ≤ R.slots; omega)
  obtain ⟨s', hA9⟩ : ∃ z, z = (T.setVm s.vm).setFrames (.invoking m args :: below) := ⟨_, rfl⟩
  rw [← hA9] at Y
  have hvm : s'.vm = s.vm := by rw [hA9]; rfl
  have hhp : s'.heap = H := by rw [hA9]; exact hT
  have hW0 : s.WarmedH s'.vm := by rw [hvm]; exact State.WarmedH.refl s
  have hA' : jAmb G s' s'.heap := by rw [hhp]; exact hA.kept hW0 h2.1 h2.2.1
  have hat : ∀ w ∈ jNsW.filter vx_no, w.before args s = true := vx_hat (B := jBad jNsC) (fun w hw => hts w (jNs_hat.1 w hw)) jNs_hat.2.1 (jBad_of hA (by decide))
  have hat' : ∀ w ∈ jNsW.filter vx_no, w.before args s' = true := fun w hw => vx_ot_at hW0 hvm.symm (jNs_hat.2.2 w (List.mem_cons_of_mem _ (List.mem_cons_of_mem _ hw))) (hat w hw)
  have hk' : (Cond.classLink RX9 169 jNsC).before args s' = true := vx_ot_at hW0 hvm.symm (jNs_hat.2.2 _ List.mem_cons_self) (hts _ kt_X9_169)
  have hini' : (Cond.initialized jNsC).before args s' = true := vx_ot_at hW0 hvm.symm (jNs_hat.2.2 _ (List.mem_cons_of_mem _ List.mem_cons_self)) (hts _ kt_X9_169i)
  have h : ∀ w ∈ jNsW, w.before args s' = true := vx_own hat' (vx_isRefq hA'.2.2.2.1.1.1) (vx_isRefq hA'.2.2.2.1.2.1) hA'.2.2.2.1.1.2.word hA'.2.2.2.1.2.2.word
  have hown' : s'.vm.findClass RX9 = some m.cls := by rw [hvm]; exact hown
  have hins : (Cond.instantiable jNsC 6).before args s' = true := h _ (jNs_own 1 rfl)
  obtain ⟨vm₁, cX, kX, hfX, hkX, -, -, X₁, st1⟩ := Y.newCold hx (own := RX9) (C := jNsC) (index := 169) (n := 6) hown' hk' hins hini'
    (g := F0 m pc ls st) rfl (by rw [hb]; exact d0) (Nat.le_refl _) (Nat.le_refl _)
  generalize hT1 : (T.setVm vm₁).pushCell { cls := cX, slots := kX.instanceTypes.map defaultValue, vm := .none } = T1 at X₁ st1
  have hcat : (Value.ref T.heap.size).category = 1 := rfl
  have hcellA : T1.heap[T.heap.size]? = some (freshCell cX kX) := by rw [← hT1]; exact State.heap_pushCell_size _ _
  have d3' : decode c.code (pc + 3) = .ok (.dup, 1) := by rw [hb]; exact d3
  have d4' : decode c.code (pc + 4) = .ok (.ldc_w is, 3) := by rw [hb]; exact d4
  have hstr' : vk_R RX9 is text (gK G i) s' := hA'.2.2.2.2.2.1 i _ hs
  have hmr := lv_room (m := m) (pc := pc) (ls := ls) (rest := st) hrest
  obtain ⟨U, hsteps, hrun, hend, hW, hsame, ce, hce, hcc, hcv⟩ := jNs_ctor X₁ hx htr hown' h (fun x hx => nomatch hx) hfX hkX hcellA (by rw [hhp, hT]; exact Nat.le_refl _) (msg := .ref (gK G i)) rfl
    (g := { method := m, pc := pc + 7, locals := ls, stack := .ref (gK G i) :: .ref T.heap.size :: .ref T.heap.size :: st, locked := none }) rfl h3.1 rfl rfl (rest := st) rfl
    (by rw [hb]; exact d6) (by rw [hb]; exact d9) (fun x hx9 => by rw [htb] at hx9; cases hx9) (by show 5 < R.frames; omega) (by show 2 * 0 + _ + _ ≤ R.locals; simp only [List.map_cons, List.sum_cons, hcat]; omega) hlk
  obtain ⟨f1, f2⟩ := vx_frame hsame
  rw [hhp] at f1 f2
  have hWs : s.WarmedH U.vm := State.WarmedH.trans hW0 hW
  have hcl : s.vm.findClass jNsC = some ce.cls := by rw [hcc, ← hvm]; exact hfX
  have hall : s.sameButNew ({ U with vm := s.vm } : State) locs R.cells R.slots := by
    subst hA9
    obtain ⟨e1, e2⟩ := hsame
    rw [State.setFrames_setFrames] at e1
    have g2 : (T.setVm s.vm).sameButNew ({ U with vm := s.vm } : State) [] (0 + 1) (0 + 6) := ⟨e1, e2⟩
    have g3 := X0.same.trans g2
    rw [List.append_nil] at g3
    exact g3.mono (by omega) (by omega)
  refine ⟨U, ?_, .threw T.heap.size, hrun, hend, Or.inr ⟨T.heap.size, rfl, jNsC, ce, locs, ⟨(M.1, U.heap.size), hq _, ⟨rfl, fun a o ha => ?_⟩, ?_⟩, hce, hcv, hcl, hWs, hall, h2.2.2⟩⟩
  · refine st1 _ ?_
    show Steps p.tables e below (T1.setTop { method := m, pc := pc + 3, locals := ls, stack := .ref T.heap.size :: st, locked := none }) _
    jvm_step X₁.here [X₁.here.top, hx, d3', Value.category]
    exact X₁.ldcStringW hx (own := RX9) (text := text) (index := is) (a := gK G i) hown' hstr'.1 hstr'.2
      (g := { method := m, pc := pc + 4, locals := ls, stack := .ref T.heap.size :: .ref T.heap.size :: st, locked := none }) rfl d4' _ hsteps
  · have h9 := h1.2 a o ha
    exact (h9.kept (f2 a h9.lt (fun z hz => nomatch hz))).moved hWs.alike
  · exact ⟨Nat.le_trans h2.1 f1, fun q g1 g2 => (f2 q (Nat.lt_of_lt_of_le g1 h2.1) (fun z hz => nomatch hz)).trans (h2.2.1 q g1 g2)⟩
set_option maxRecDepth 100000 in
set_option maxHeartbeats 4000000 in
theorem kt_X9_69 : jTh RX9 69 73 "java/lang/IllegalArgumentException" := ⟨by decide +kernel, by decide, jWs_of 456 (by decide +kernel) rfl, jWs_of 89 (by decide +kernel) rfl, by decide +kernel, by decide +kernel, by decide +kernel⟩
set_option maxRecDepth 100000 in
set_option maxHeartbeats 4000000 in
theorem kt_X9_80 : jTh RX9 80 84 "java/lang/IllegalStateException" := ⟨by decide +kernel, by decide, jWs_of 535 (by decide +kernel) rfl, jWs_of 90 (by decide +kernel) rfl, by decide +kernel, by decide +kernel, by decide +kernel⟩
set_option maxRecDepth 100000 in
set_option maxHeartbeats 4000000 in
theorem kt_X9_272 : jTh RX9 272 276 "java/lang/IndexOutOfBoundsException" := ⟨by decide +kernel, by decide, jWs_of 715 (by decide +kernel) rfl, jWs_of 97 (by decide +kernel) rfl, by decide +kernel, by decide +kernel, by decide +kernel⟩
set_option maxRecDepth 100000 in
set_option maxHeartbeats 4000000 in
theorem kt_X9_308 : jTh RX9 308 312 "java/lang/UnsupportedOperationException" := ⟨by decide +kernel, by decide, jWs_of 1507 (by decide +kernel) rfl, jWs_of 107 (by decide +kernel) rfl, by decide +kernel, by decide +kernel, by decide +kernel⟩
set_option maxRecDepth 100000 in
set_option maxHeartbeats 4000000 in
theorem kt_X9_341 : jTh RX9 341 345 "java/lang/ArithmeticException" := ⟨by decide +kernel, by decide, jWs_of 1570 (by decide +kernel) rfl, jWs_of 108 (by decide +kernel) rfl, by decide +kernel, by decide +kernel, by decide +kernel⟩

