/-! ===== more rows: constants, statics, copies, inherited and private methods ===== -/
theorem sel_priv {C : String} {x0 y : MethodName} {args : Array Value} {s : State} (hy : y.cls ≠ "java/lang/invoke/MethodHandle" ∧ y.cls ≠ "java/lang/invoke/VarHandle") (h0 : (Cond.selects C x0 x0).before args s = true) (hcl : x0.cls = y.cls) (hpriv : (Cond.privateMethod y).before args s = true) (hinst : (Cond.instanceMethod y).before args s = true) : (Cond.selects C y y).before args s = true := by
  obtain ⟨mk, methM, hnamed, hmethM, -, -⟩ := Cond.instanceMethod_spec hinst
  have hfound : s.methodFound? y.cls y.name y.desc = some mk := State.methodFound?_of_named hnamed hy
  have hyc := findClass_of_methodNamed hnamed
  simp only [Cond.before, Cond.holds, Cond.value] at h0 ⊢
  cases hc : s.vm.findClass C with
  | none => simp [hc] at h0
  | some c =>
    cases hf : s.methodFound? x0.cls x0.name x0.desc with
    | none => simp [hc, hf] at h0
    | some m0 =>
      cases hn : s.methodNamed? x0 with
      | none => simp [hc, hf, hn] at h0
      | some m1 =>
        have hx := findClass_of_methodNamed hn
        rw [hcl] at hx
        have hcls : mk.cls = m1.cls := Option.some.inj (hyc.symm.trans hx)
        have hsel : selectMethod {} s.vm c mk = .method mk := selectMethod_private hmethM (Cond.privateMethod_at hpriv mk methM hnamed hmethM)
        have hni : (s.vm.classes[m1.cls]?).any (!·.isInterface) = true := by
          simp only [hc, hf, hn] at h0
          cases hs : selectMethod {} s.vm c m0 with
          | method m' => rw [hs] at h0; simp at h0; simpa using h0.2
          | _ => rw [hs] at h0; simp at h0
        simp only [hfound, hnamed, hsel]
        rw [hcls]
        simpa using hni
section CR
variable {C : jC} {y : jY} {d : Nat} {M : jM} {kc ks pc : Nat} {l : List (Option Value)} {st : List Value}
theorem j_ldcS (hC : jOK0 y d C) {i is : Nat} {text : String} (hs : jCs[i]? = some (y.1.cls, is, text)) (hd : decode y.2.1 pc = .ok (.ldc is, 2)) (kk : J C M kc ks (pc + 2) l (.ref (gK (jCG C) i) :: st)) : J C M kc ks pc l st := by
  obtain ⟨p, e, R, s, m, args, below, meth, c, Q, G⟩ := C
  obtain ⟨hx, hb, hr, hml, hown, hts, hlk, hnm, htb, hdf, hdl, hfl, hA⟩ := hC
  intro H locs cells slots ls h1 h2 h3 h4 h5
  exact va_ldcS hx hb hown (hA.2.2.2.2.2.1 i _ hs) hd (kk H locs cells slots ls h1 h2 h3 h4 h5)
theorem j_ldcw (hC : jOK0 y d C) {idx : Nat} {v : Int32} (hw : Cond.constant y.1.cls idx v ∈ jWs) (hd : decode y.2.1 pc = .ok (.ldc_w idx, 3)) (kk : J C M kc ks (pc + 3) l (.int v :: st)) : J C M kc ks pc l st := by
  obtain ⟨p, e, R, s, m, args, below, meth, c, Q, G⟩ := C
  obtain ⟨hx, hb, hr, hml, hown, hts, hlk, hnm, htb, hdf, hdl, hfl, hA⟩ := hC
  intro H locs cells slots ls h1 h2 h3 h4 h5
  exact lv_ldcw hx hb hown (hts _ hw) hd (kk H locs cells slots ls h1 h2 h3 h4 h5)
theorem j_ldcI (hC : jOK0 y d C) {idx : Nat} {v : Int32} (hw : Cond.constant y.1.cls idx v ∈ jWs) (hd : decode y.2.1 pc = .ok (.ldc idx, 2)) (kk : J C M kc ks (pc + 2) l (.int v :: st)) : J C M kc ks pc l st := by
  obtain ⟨p, e, R, s, m, args, below, meth, c, Q, G⟩ := C
  obtain ⟨hx, hb, hr, hml, hown, hts, hlk, hnm, htb, hdf, hdl, hfl, hA⟩ := hC
  intro H locs cells slots ls h1 h2 h3 h4 h5
  exact lv_ldc hx hb hown (hts _ hw) hd (kk H locs cells slots ls h1 h2 h3 h4 h5)
theorem j_compact (hC : jOK0 y d C) {idx : Nat} (hl : Cond.fieldLink y.1.cls idx "java/lang/String" "COMPACT_STRINGS" "Z" ∈ jWs) (hd : decode y.2.1 pc = .ok (.getstatic idx, 3)) (kk : J C M kc ks (pc + 3) l (.int 1 :: st)) : J C M kc ks pc l st := by
  obtain ⟨p, e, R, s, m, args, below, meth, c, Q, G⟩ := C
  obtain ⟨hx, hb, hr, hml, hown, hts, hlk, hnm, htb, hdf, hdl, hfl, hA⟩ := hC
  intro H locs cells slots ls h1 h2 h3 h4 h5
  exact va_gets hx hb hA.2.2.2.2.1.1 h2 hown (hts _ hl) (fun _ h => h) hd (kk H locs cells slots ls h1 h2 h3 h4 h5)
theorem j_sioobe (hC : jOK0 y d C) {idx : Nat} (hl : Cond.fieldLink y.1.cls idx "jdk/internal/util/Preconditions" "SIOOBE_FORMATTER" "Ljava/util/function/BiFunction;" ∈ jWs) (hd : decode y.2.1 pc = .ok (.getstatic idx, 3)) (kk : ∀ v, jrf v → J C M kc ks (pc + 3) l (v :: st)) : J C M kc ks pc l st := by
  obtain ⟨p, e, R, s, m, args, below, meth, c, Q, G⟩ := C
  obtain ⟨hx, hb, hr, hml, hown, hts, hlk, hnm, htb, hdf, hdl, hfl, hA⟩ := hC
  intro H locs cells slots ls h1 h2 h3 h4 h5
  rcases hA.2.2.2.2.1.2.1 with h | ⟨t, h⟩
  · exact va_gets hx hb h h2 hown (hts _ hl) (fun _ h => h) hd (kk _ jrf_null H locs cells slots ls h1 h2 h3 h4 h5)
  · exact va_gets hx hb h h2 hown (hts _ hl) (fun _ h => h) hd (kk _ (jrf_ref t) H locs cells slots ls h1 h2 h3 h4 h5)
/-- what a copied element may be -/
def jEl (M : jM) (ty : FieldType) (v : Value) : Prop := (ty = .byte ∧ fits .byte v = true) ∨ (∃ r : vw_C, ty = .object r.1 ∧ (v = .null ∨ ∃ (b ci : Nat) (fs : List Value), v = .ref b ∧ M.1 b = some (.inr (ci, fs)) ∧ vwCl[ci]? = some r))
theorem j_copy (hC : jOK0 y d C) {idx a0 a n0 n1 : Nat} {ty : FieldType} {f g : Nat → Value} {sp dp n : Int32} (hl : Cond.methodLink y.1.cls idx arraycopyName ∈ jWs) (hnat : Cond.native arraycopyName ∈ jWs) (hstat : Cond.static arraycopyName ∈ jWs) (hini : Cond.initialized "java/lang/System" ∈ jWs) (hd : decode y.2.1 pc = .ok (.invokestatic idx, 3)) (hM0 : M.1 a0 = some (.inl (ty, n0, f))) (hM1 : M.1 a = some (.inl (ty, n1, g))) (hB0 : jB C ≤ a0) (hB : jB C ≤ a)
    (g1 : ¬ sp < 0) (g2 : ¬ dp < 0) (g3 : ¬ n < 0) (g4 : sp.toNatClampNeg + n.toNatClampNeg ≤ n0) (g5 : dp.toNatClampNeg + n.toNatClampNeg ≤ n1) (hel : ∀ i : Nat, i < n.toNatClampNeg → jEl M ty (f (sp.toNatClampNeg + i))) (hd1 : 1 ≤ d) (hrest : (st.map fun v => v.category).sum ≤ 8)
    (kk : J C (jput M a (.inl (ty, n1, va_cpy f g sp.toNatClampNeg dp.toNatClampNeg n.toNatClampNeg))) kc ks (pc + 3) l st) : J C M kc ks pc l (.int n :: .int dp :: .ref a :: .int sp :: .ref a0 :: st) := by
  obtain ⟨p, e, R, s, m, args, below, meth, c, Q, G⟩ := C
  obtain ⟨hx, hb, hr, hml, hown, hts, hlk, hnm, htb, hdf, hdl, hfl, hA⟩ := hC
  intro H locs cells slots ls h1 h2 h3 h4 h5
  have hB0' : gB G ≤ a0 := hB0
  have hB' : gB G ≤ a := hB
  have nn : ∀ z : Int32, ¬ z < 0 → z.toInt = (z.toNatClampNeg : Int) := by
    intro z hz
    have hz0 : (0 : Int) ≤ z.toInt := by
      have := Int32.not_lt.mp hz
      simpa using Int32.le_iff_toInt_le.mp this
    show z.toInt = ((z.toInt.toNat : Nat) : Int)
    omega
  rcases h1.2 a0 _ hM0 with ⟨-, hty, hc0⟩ | ⟨hlt, -⟩
  · rcases h1.2 a _ hM1 with ⟨-, -, hc1⟩ | ⟨hlt, -⟩
    · intro T hT X
      obtain ⟨-, k0, hk0, cm0, hkk0⟩ := (hA.2.1 _ hty).1 n0 f
      obtain ⟨-, k1, hk1, cm1, hkk1⟩ := (hA.2.1 _ hty).1 n1 g
      have hrf : ((refKind ty != refKind ty) || (!refKind ty && ty != ty)) = false := by
        cases refKind ty <;> simp
      obtain ⟨vm', X', step⟩ := X.arraycopy hx hown (hts _ hl) (hts _ hnat) (hts _ hstat) (hts _ hini) (src := a0) (dst := a) (cs := arrV (gA G ty) n0 f) (cd := arrV (gA G ty) n1 g) (srcPos := sp) (destPos := dp) (n := n) (by rw [hT]; exact hc0) (by rw [hT]; exact hc1)
        (fun _ h => by cases h) (fun _ h => by cases h) (fun h => by cases h) (fun h => by cases h) hk0 hk1 hkk0 hkk1 hrf g1 g2 g3
        (by rw [nn sp g1, nn n g3, arrV_size]; omega)
        (by rw [nn dp g2, nn n g3, arrV_size]; omega)
        (fun vm₁ hal i hi => by
          have e : (arrV (gA G ty) n0 f).slots.getD (sp.toNatClampNeg + i) .null = f (sp.toNatClampNeg + i) := by
            rw [Array.getD_eq_getD_getElem?, arrV_read _ _ (by omega)]
            rfl
          rw [e]
          rcases hel i hi with ⟨rfl, h⟩ | ⟨r, rfl, hv⟩
          · refine ⟨h, ?_⟩
            cases hf : f (sp.toNatClampNeg + i) with
            | ref b => rw [hf] at h; cases h
            | _ => exact trivial
          · rcases hv with hv | ⟨b, ci, fs, hv, hMb, hci⟩
            · rw [hv]; exact ⟨rfl, trivial⟩
            · rw [hv]
              obtain ⟨r', cellV, z1, z2, z3, z4, z5, -⟩ := (h1.2 b _ hMb).wk hA
              cases z1.symm.trans hci
              have hcls := (hA.1 ci r hci).2
              obtain ⟨kA, comp, r1, r2, r3, -⟩ := (hA.2.1 _ hty).2
              cases hk1.symm.trans r1
              cases hkk1.symm.trans r2
              have hcomp : cm1 = gC G ci := Option.some.inj (r3.symm.trans hcls.1)
              subst hcomp
              obtain ⟨kC, hkC, -⟩ := hcls.2
              obtain ⟨kC', hkC', -⟩ := hal.2.2 _ _ hkC
              refine ⟨rfl, cellV, (show T.heap[b]? = some cellV by rw [hT]; exact z2), (fun q h => by rw [h] at z4; cases z4), ⟨kC', by rw [z3]; exact hkC'⟩, ⟨kC', hkC'⟩, ?_⟩
              show vm₁.assignable _ _ = true
              rw [hal.assignable, z3]
              exact va_assign hcls)
        (g := F0 m pc ls (.int n :: .int dp :: .ref a :: .int sp :: .ref a0 :: st)) rfl h3.1 (rest := st) rfl (by rw [hb]; exact hd) (by omega) (by show 2 * 0 + _ + _ ≤ _; have hn9 : nativeFrameWords "java/lang/System" "arraycopy" 5 = 7 := (by decide); omega)
      have e1 : copied (arrV (gA G ty) n0 f) (arrV (gA G ty) n1 g) sp dp n = arrV (gA G ty) n1 (va_cpy f g sp.toNatClampNeg dp.toNatClampNeg n.toNatClampNeg) := va_copied (fun z : Value => z) _ _ f g g4
      rw [e1] at X' step
      have hl9 : a < H.size := (Array.getElem?_eq_some_iff.mp hc1).1
      generalize hcv : arrV (gA G ty) n1 (va_cpy f g sp.toNatClampNeg dp.toNatClampNeg n.toNatClampNeg) = cv at X' step
      have hheap : ((T.setVm vm').setCell a cv).heap = H.setIfInBounds a cv := by rw [← hT]; rfl
      have oq : ∀ q : Nat, q ≠ a → (H.setIfInBounds a cv)[q]? = H[q]? := fun q hq => by simp [Array.getElem?_setIfInBounds, Ne.symm hq]
      have hz : (H.setIfInBounds a cv).size = H.size := by simp
      obtain ⟨t, a1, b1⟩ := kk (H.setIfInBounds a cv) _ cells slots ls (h1.put hB' hz ⟨hty, by rw [hcv]; simp [Array.getElem?_setIfInBounds, hl9]⟩ oq) ⟨by rw [hz]; exact h2.1, fun q g1 g2 => by
          rw [oq q (fun e => g2 (by rw [e]; exact hB'))]
          exact h2.2.1 q g1 g2, fun q hq => by
          rcases List.mem_append.mp hq with h | h
          · exact h2.2.2 q h
          · obtain ⟨z, -, hz⟩ := List.mem_map.mp h
            rw [← hz]
            exact hB'⟩ h3 h4 h5 _ hheap X'
      exact ⟨t, step t a1, b1⟩
    · exact absurd hB' (Nat.not_le.mpr hlt)
  · exact absurd hB0' (Nat.not_le.mpr hlt)
/-- clone of a row of bytes -/
theorem j_clone (hC : jOK0 y d C) {idx a n : Nat} {g : Nat → Value} (hl : Cond.methodLink y.1.cls idx ⟨"[B", "clone", "()Ljava/lang/Object;"⟩ ∈ jWs) (hsame : Cond.sameMethod "[B" "java/lang/Object" "clone" "()Ljava/lang/Object;" ∈ jWs) (hnat : Cond.native ⟨"java/lang/Object", "clone", "()Ljava/lang/Object;"⟩ ∈ jWs) (hinst : Cond.instanceMethod ⟨"java/lang/Object", "clone", "()Ljava/lang/Object;"⟩ ∈ jWs)
    (hsel : Cond.selects "[B" ⟨"[B", "clone", "()Ljava/lang/Object;"⟩ ⟨"java/lang/Object", "clone", "()Ljava/lang/Object;"⟩ ∈ jWs) (hd : decode y.2.1 pc = .ok (.invokevirtual idx, 3)) (hM : M.1 a = some (.inl (.byte, n, g))) (hB : jB C ≤ a) (hfit : ∀ j, j < n → fits .byte (g j) = true) (hd1 : 1 ≤ d) (hrest : (st.map fun v => v.category).sum ≤ 8) (hkc : 1 ≤ kc) (hks : n ≤ ks)
    (kk : J C (jnew M (.inl (.byte, n, g))) (kc - 1) (ks - n) (pc + 3) l (.ref M.2 :: st)) : J C M kc ks pc l (.ref a :: st) := by
  obtain ⟨p, e, R, s, m, args, below, meth, c, Q, G⟩ := C
  obtain ⟨hx, hb, hr, hml, hown, hts, hlk, hnm, htb, hdf, hdl, hfl, hA⟩ := hC
  intro H locs cells slots ls h1 h2 h3 h4 h5
  have hB' : gB G ≤ a := hB
  rcases h1.2 a _ hM with ⟨-, hty, hc0⟩ | ⟨hlt, -⟩
  · obtain ⟨c0, t0', f1, f2, f3⟩ := Cond.castable_spec (va_Nw.use (A := args) rfl hA.2.2.2.2.1.2.2.1)
    have hnm9 : s.vm.findClass "[B" = some (gA G .byte) := (hA.2.1 _ hty).2
    cases hnm9.symm.trans f1
    intro T hT X
    have hcellT : T.heap[a]? = some (arrV (gA G .byte) n g) := by rw [hT]; exact hc0
    obtain ⟨-, kA, hkA, comp, hkind⟩ := State.isArrayOf_alike X.warmed.alike ((hA.2.1 _ hty).1 0 (fun _ => .null))
    obtain ⟨-, kS, hkS, compS, hkindS⟩ := (hA.2.1 _ hty).1 0 (fun _ => .null)
    obtain ⟨vm', X', st9⟩ := X.cloneArray hx hown (hts _ hl) (hts _ hsame) (hts _ hnat) (hts _ hinst) (hts _ hsel) (a := a) (cell := arrV (gA G .byte) n g) hcellT (fun k h => by cases h) (fun h => by cases h) hnm9 f2 f3
      (fun i v hv => by
        have hk' : T.vm.classes[gA G .byte]? = some kA := hkA
        have hi : i < n := by
          have := (Array.getElem?_eq_some_iff.mp hv).1
          rwa [arrV_size] at this
        rw [arrV_read _ _ hi] at hv
        cases hv
        simpa [State.fitsSlot, State.slotType?, arrV, hk', hkind] using hfit i hi)
      (g := F0 m pc ls (.ref a :: st)) rfl h3.1 rfl (by rw [hb]; exact hd) (by omega) (by show 2 * 0 + _ + 14 ≤ _; omega) (by omega) (by rw [arrV_size]; omega) (hloader := Vm.clonesLoader_of_array hkS hkindS)
    rw [arrV_size] at X'
    generalize hH1 : H.push (arrV (gA G .byte) n g) = H1
    have z1 : H1.size = H.size + 1 := by rw [← hH1, Array.size_push]
    have e1 : H1[H.size]? = some (arrV (gA G .byte) n g) := by rw [← hH1, Array.getElem?_push_size]
    have o1 : ∀ q : Nat, q < H.size → H1[q]? = H[q]? := fun q hq => by rw [← hH1, Array.getElem?_push, if_neg (Nat.ne_of_lt hq)]
    have e9 : H.size = M.2 := h1.1
    have hR := h1.new (o := .inl (.byte, n, g)) (Nat.le_trans hA.2.2.1 h2.1) z1 ⟨hty, e1⟩ o1
    obtain ⟨t, b1, b2⟩ := kk H1 locs (cells + 1) (slots + n) ls hR (jS_new h2 z1 o1) h3 (by omega) (by omega) ((T.setVm vm').pushCell (arrV (gA G .byte) n g)) (by rw [← hH1, ← hT]; rfl) X'
    refine ⟨t, st9 t ?_, b2⟩
    rw [hT, e9]
    exact b1
  · exact absurd hB' (Nat.not_le.mpr hlt)
theorem j_castB (hC : jOK0 y d C) {idx a n : Nat} {g : Nat → Value} (hl : Cond.classLink y.1.cls idx "[B" ∈ jWs) (hd : decode y.2.1 pc = .ok (.checkcast idx, 3)) (hM : M.1 a = some (.inl (.byte, n, g))) (hB : jB C ≤ a) (kk : J C M kc ks (pc + 3) l (.ref a :: st)) : J C M kc ks pc l (.ref a :: st) := by
  obtain ⟨p, e, R, s, m, args, below, meth, c, Q, G⟩ := C
  obtain ⟨hx, hb, hr, hml, hown, hts, hlk, hnm, htb, hdf, hdl, hfl, hA⟩ := hC
  intro H locs cells slots ls h1 h2 h3 h4 h5
  have hB' : gB G ≤ a := hB
  rcases h1.2 a _ hM with ⟨-, hty, hc0⟩ | ⟨hlt, -⟩
  · have hnm9 : s.vm.findClass "[B" = some (gA G .byte) := (hA.2.1 _ hty).2
    intro T hT X
    obtain ⟨vm', X', st9⟩ := X.checkcastYes hx hown (hts _ hl) (by rw [hT]; exact hc0) rfl hnm9 (va_asg _ _) (g := F0 m pc ls (.ref a :: st)) rfl rfl (by rw [hb]; exact hd)
    obtain ⟨t, a1, b1⟩ := kk H locs cells slots ls h1 h2 h3 h4 h5 (T.setVm vm') hT X'
    exact ⟨t, st9 t a1, b1⟩
  · exact absurd hB' (Nat.not_le.mpr hlt)
end CR
