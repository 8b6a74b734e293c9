/-! ===== calls of what StringBuilder inherits ===== -/
def jMu (own : String) (idx : Nat) (x : MethodName) (y : jY) (n : Nat) : Prop := jMh y n ∧ y.2.2.2.2 = [] ∧ Cond.methodLink own idx x ∈ jWs ∧ Cond.sameMethod x.cls x.cls x.name x.desc ∈ jWs ∧ (Cond.instanceMethod x ∈ jWs ∧ ∃ b m r, Cond.code x b m r ∈ jWs) ∧ Cond.instanceMethod y.1 ∈ jWs ∧ (x.cls ≠ "java/lang/invoke/MethodHandle" ∧ x.cls ≠ "java/lang/invoke/VarHandle" ∧ (parseMethodDescriptor x.desc).map (fun d => d.parameters.length) = some n) ∧ (Cond.selects RJ4 x y.1 ∈ jWs ∨ x = y.1 ∧ x ∈ jPrv)
def jMsu (own : String) (idx : Nat) (y : jY) (n : Nat) : Prop := jMh y n ∧ y.2.2.2.2 = [] ∧ Cond.methodLink own idx y.1 ∈ jWs ∧ Cond.sameMethod y.1.cls y.1.cls y.1.name y.1.desc ∈ jWs ∧ Cond.superclass own y.1.cls ∈ jWs ∧ Cond.instanceMethod y.1 ∈ jWs ∧ y.1.name ≠ "<init>"
section CU
variable {C : jC} {y : jY} {d : Nat} {M : jM} {kc ks pc : Nat} {l : List (Option Value)} {st : List Value}
theorem j_callU (hC : jOK0 y d C) {x : MethodName} {y' : jY} {idx b n kc' ks' d' : Nat} {As rest : List Value} {fs : List Value} {Q' : Option Value → jM → Prop} (hm : jMu y.1.cls idx x y' n) (hd : decode y.2.1 pc = .ok (.invokevirtual idx, 3))
    (hM : JMet (jCG C) y' (.ref b :: As) M kc' ks' d' Q' jNo) (hb0 : M.1 b = some (.inr (1, fs))) (hn : As.length = n) (hst : st = As.reverse ++ .ref b :: rest) (hd1 : d' + 1 ≤ d) (hkc : kc' ≤ kc) (hks : ks' ≤ ks) (hrest : (rest.map fun v => v.category).sum ≤ 8)
    (kk : ∀ v M', Q' v M' → J C M' (kc - kc') (ks - ks') (pc + 3) l (v.toList ++ rest)) : J C M kc ks pc l st := by
  obtain ⟨p, e, R, s, m, args, below, meth, c, Qs, G⟩ := C
  obtain ⟨hx, hb, hr, hml, hown, hts, hlk, hnm, htb, hdf, hdl, hfl, hA⟩ := hC
  intro H locs cells slots ls h1 h2 h3 h4 h5 T hT X
  obtain ⟨⟨m1, m2, m3, m4, m5, m6⟩, m7, m8, m9, ⟨m10, cb, cm, cr, m11⟩, m12, ⟨m13, m14, m15⟩, m16⟩ := hm
  subst hst
  have hci : vwCl[1]? = some (RJ4, TJ4, 4) := rfl
  obtain ⟨r', cellB, z1, z2, z3, z4, -⟩ := (h1.2 b _ hb0).wk hA
  cases z1.symm.trans hci
  have hcls : s.vm.findClass RJ4 = some cellB.cls := by rw [z3]; exact (hA.1 1 _ hci).2.1
  obtain ⟨ya, yb, yc, yd, yh⟩ := y'
  dsimp only at m7
  subst m7
  have hsel : (Cond.selects RJ4 x ya).before args s = true := by
    rcases m16 with h | ⟨h, h7⟩
    · exact hts _ h
    · have h' : x = ya := h
      subst h'
      exact va_Nw.use rfl (hA.2.2.2.2.1.2.2.2 _ h7)
  have hcw : va_CU R s args y.1.cls RJ4 x.cls idx x ya yb yc yd (jW (ya, yb, yc, yd, [])) (jRm d' kc' ks') kc' ks' n := by
    refine ⟨⟨rfl, rfl, by show d' + 1 ≤ R.frames; omega, by show 8 + (yc + 11) + 46 * d' ≤ R.locals; dsimp only at m6; omega, pay_in hts (jW_good m1), List.mem_cons_self⟩, hts _ m1, hts _ m2, ⟨m13, m14⟩, fun sig h => ?_, hts _ m8, hts _ m9, va_Decl.of (hts _ m10) (hts _ m11), hsel, hts _ m12⟩
    rw [h] at m15
    exact (Option.some.inj m15).symm
  obtain ⟨v, st₀, t, T', L, e0, X', hL, e1, e2, ⟨v', M', hv, hQ, hR, hF⟩, stp⟩ := va_runU (cc := y.2.1) (nL := y.2.2.1) (Ts := jWs) (g := F0 m pc ls (As.reverse ++ .ref b :: rest)) ⟨hx, hb, hml, hown, hts⟩ (jMet_met hM) hcw ⟨jRel_amb_blind, ⟨cellB, z2, z4, hcls⟩, fun U hU hW => ⟨rfl, by rw [hU]; exact hA.kept hW h2.1 h2.2.1, by rw [hU]; exact h1.moved hW.alike⟩⟩ rfl hn (h3.1.trans hml) rfl (lv_room hrest) hd ⟨by omega, by omega⟩ T hT X
  cases hv
  obtain ⟨b1, b2⟩ := jBack e0 e1 (by rw [← e2]; exact X'.warmed.alike) hL hR hF h2
  obtain ⟨t2, a1, a2⟩ := kk v M' hQ T'.heap (locs ++ L) (cells + kc') (slots + ks') ls b1 b2 h3 (by omega) (by omega) T' rfl X'
  exact ⟨t2, stp t2 a1, a2⟩
theorem j_callSU (hC : jOK0 y d C) {y' : jY} {idx b n kc' ks' d' : Nat} {As rest : List Value} {fs : List Value} {Q' : Option Value → jM → Prop} (hm : jMsu y.1.cls idx y' n) (hd : decode y.2.1 pc = .ok (.invokespecial idx, 3))
    (hM : JMet (jCG C) y' (.ref b :: As) M kc' ks' d' Q' jNo) (hb0 : M.1 b = some (.inr (1, fs))) (hn : As.length = n) (hst : st = As.reverse ++ .ref b :: rest) (hd1 : d' + 1 ≤ d) (hkc : kc' ≤ kc) (hks : ks' ≤ ks) (hrest : (rest.map fun v => v.category).sum ≤ 8)
    (kk : ∀ v M', Q' v M' → J C M' (kc - kc') (ks - ks') (pc + 3) l (v.toList ++ rest)) : J C M kc ks pc l st := by
  obtain ⟨p, e, R, s, m, args, below, meth, c, Qs, G⟩ := C
  obtain ⟨hx, hb, hr, hml, hown, hts, hlk, hnm, htb, hdf, hdl, hfl, hA⟩ := hC
  intro H locs cells slots ls h1 h2 h3 h4 h5 T hT X
  obtain ⟨⟨m1, m2, m3, m4, m5, m6⟩, m7, m8, m9, m10, m11, m12⟩ := hm
  subst hst
  have hci : vwCl[1]? = some (RJ4, TJ4, 4) := rfl
  obtain ⟨r', cellB, z1, z2, z3, z4, -⟩ := (h1.2 b _ hb0).wk hA
  cases z1.symm.trans hci
  have hat := (hA.1 1 _ hci).2
  have hcls : s.vm.findClass RJ4 = some cellB.cls := by rw [z3]; exact hat.1
  obtain ⟨ya, yb, yc, yd, yh⟩ := y'
  dsimp only at m7
  subst m7
  have hcw : va_CS R s args y.1.cls idx ya yb yc yd (jW (ya, yb, yc, yd, [])) (jRm d' kc' ks') kc' ks' n := by
    refine ⟨⟨rfl, rfl, by show d' + 1 ≤ R.frames; omega, by show 8 + (yc + 11) + 46 * d' ≤ R.locals; dsimp only at m6; omega, pay_in hts (jW_good m1), List.mem_cons_self⟩, hts _ m8, hts _ m9, hts _ m10, hts _ m11, hts _ m2, hts _ m1, m12, fun sig h => ?_⟩
    rw [h] at m5
    exact (Option.some.inj m5).symm
  obtain ⟨v, st₀, t, T', L, e0, X', hL, e1, e2, ⟨v', M', hv, hQ, hR, hF⟩, stp⟩ := va_runSU (cc := y.2.1) (nL := y.2.2.1) (Ts := jWs) (g := F0 m pc ls (As.reverse ++ .ref b :: rest)) hat ⟨hx, hb, hml, hown, hts⟩ (jMet_met hM) hcw ⟨jRel_amb_blind, ⟨cellB, z2, z4, hcls⟩, fun U hU hW => ⟨rfl, by rw [hU]; exact hA.kept hW h2.1 h2.2.1, by rw [hU]; exact h1.moved hW.alike⟩⟩ rfl hn (h3.1.trans hml) rfl (lv_room hrest) hd ⟨by omega, by omega⟩ T hT X
  cases hv
  obtain ⟨b1, b2⟩ := jBack e0 e1 (by rw [← e2]; exact X'.warmed.alike) hL hR hF h2
  obtain ⟨t2, a1, a2⟩ := kk v M' hQ T'.heap (locs ++ L) (cells + kc') (slots + ks') ls b1 b2 h3 (by omega) (by omega) T' rfl X'
  exact ⟨t2, stp t2 a1, a2⟩
theorem c_PU {P : Option Value → jM → Prop} (hC : jOK0 y d C) {x : MethodName} {y' : jY} {idx b n d' kc' ks' : Nat} {As rest fs : List Value} (hm : jMu y.1.cls idx x y' n) (hd : decode y.2.1 pc = .ok (.invokevirtual idx, 3)) (hM : CP (jCG C) M y' kc' ks' d' (.ref b :: As) P) (hb0 : M.1 b = some (.inr (1, fs))) (hn : As.length = n) (hst : st = As.reverse ++ .ref b :: rest) (hd1 : d' + 1 ≤ d) (hrest : (rest.map fun v => v.category).sum ≤ 8)
    (kk : ∀ v M', P v M' → J C M' kc ks (pc + 3) l (v.toList ++ rest)) : J C M (kc + kc') (ks + ks') pc l st :=
  j_callU hC hm hd hM hb0 hn hst hd1 (Nat.le_add_left _ _) (Nat.le_add_left _ _) hrest (fun v M' h => by rw [Nat.add_sub_cancel, Nat.add_sub_cancel]; exact kk v M' h)
theorem c_PSU {P : Option Value → jM → Prop} (hC : jOK0 y d C) {y' : jY} {idx b n d' kc' ks' : Nat} {As rest fs : List Value} (hm : jMsu y.1.cls idx y' n) (hd : decode y.2.1 pc = .ok (.invokespecial idx, 3)) (hM : CP (jCG C) M y' kc' ks' d' (.ref b :: As) P) (hb0 : M.1 b = some (.inr (1, fs))) (hn : As.length = n) (hst : st = As.reverse ++ .ref b :: rest) (hd1 : d' + 1 ≤ d) (hrest : (rest.map fun v => v.category).sum ≤ 8)
    (kk : ∀ v M', P v M' → J C M' kc ks (pc + 3) l (v.toList ++ rest)) : J C M (kc + kc') (ks + ks') pc l st :=
  j_callSU hC hm hd hM hb0 hn hst hd1 (Nat.le_add_left _ _) (Nat.le_add_left _ _) hrest (fun v M' h => by rw [Nat.add_sub_cancel, Nat.add_sub_cancel]; exact kk v M' h)
end CU
theorem ku_J5_100 : jMu RJ5 100 ⟨"java/lang/AbstractStringBuilder", "ensureCapacityInternal", "(I)V"⟩ jJ5_ensureCapacityInternal_d00df 1 := ⟨jh_J5_ensureCapacityInternal_d00df, rfl, jWs_of 558 (by decide +kernel) rfl, jWs_of 2041 (by decide +kernel) rfl, ⟨jWs_of 560 (by decide +kernel) rfl, _, _, _, (jh_J5_ensureCapacityInternal_d00df).1⟩, jWs_of 560 (by decide +kernel) rfl, ⟨by decide, by decide, by decide +kernel⟩, Or.inr ⟨rfl, List.mem_cons_self⟩⟩
theorem ku_J5_104 : jMu RJ5 104 ⟨"java/lang/AbstractStringBuilder", "newCapacity", "(I)I"⟩ jJ5_newCapacity_0f7a4 1 := ⟨jh_J5_newCapacity_0f7a4, rfl, jWs_of 562 (by decide +kernel) rfl, jWs_of 2042 (by decide +kernel) rfl, ⟨jWs_of 564 (by decide +kernel) rfl, _, _, _, (jh_J5_newCapacity_0f7a4).1⟩, jWs_of 564 (by decide +kernel) rfl, ⟨by decide, by decide, by decide +kernel⟩, Or.inr ⟨rfl, List.mem_cons_of_mem _ List.mem_cons_self⟩⟩
theorem ku_J5_83 : jMu RJ5 83 ⟨"java/lang/AbstractStringBuilder", "isLatin1", "()Z"⟩ jJ5_isLatin1_aae02 0 := ⟨jh_J5_isLatin1_aae02, rfl, jWs_of 589 (by decide +kernel) rfl, jWs_of 591 (by decide +kernel) rfl, ⟨jWs_of 590 (by decide +kernel) rfl, _, _, _, (jh_J5_isLatin1_aae02).1⟩, jWs_of 590 (by decide +kernel) rfl, ⟨by decide, by decide, by decide +kernel⟩, Or.inl (jWs_of 592 (by decide +kernel) rfl)⟩
theorem ku_J0_552 : jMu RJ0 552 ⟨"java/lang/AbstractStringBuilder", "getValue", "()[B"⟩ jJ5_getValue_6d5f1 0 := ⟨jh_J5_getValue_6d5f1, rfl, jWs_of 802 (by decide +kernel) rfl, jWs_of 804 (by decide +kernel) rfl, ⟨jWs_of 803 (by decide +kernel) rfl, _, _, _, (jh_J5_getValue_6d5f1).1⟩, jWs_of 803 (by decide +kernel) rfl, ⟨by decide, by decide, by decide +kernel⟩, Or.inl (jWs_of 805 (by decide +kernel) rfl)⟩
theorem ku_J0_549 : jMu RJ0 549 ⟨"java/lang/AbstractStringBuilder", "length", "()I"⟩ jJ4_length_8abf5 0 := ⟨jh_J4_length_8abf5, rfl, jWs_of 807 (by decide +kernel) rfl, jWs_of 2039 (by decide +kernel) rfl, ⟨jWs_of 533 (by decide +kernel) rfl, _, _, _, (jh_J5_length_8abf5).1⟩, jWs_of 529 (by decide +kernel) rfl, ⟨by decide, by decide, by decide +kernel⟩, Or.inl (jWs_of 2044 (by decide +kernel) rfl)⟩
theorem ku_J0_1047 : jMu RJ0 1047 ⟨"java/lang/AbstractStringBuilder", "isLatin1", "()Z"⟩ jJ5_isLatin1_aae02 0 := ⟨jh_J5_isLatin1_aae02, rfl, jWs_of 808 (by decide +kernel) rfl, jWs_of 591 (by decide +kernel) rfl, ⟨jWs_of 590 (by decide +kernel) rfl, _, _, _, (jh_J5_isLatin1_aae02).1⟩, jWs_of 590 (by decide +kernel) rfl, ⟨by decide, by decide, by decide +kernel⟩, Or.inl (jWs_of 592 (by decide +kernel) rfl)⟩
theorem ksu_J4_50 : jMsu RJ4 50 jJ5_append_3fe6f 1 := ⟨jh_J5_append_3fe6f, rfl, jWs_of 555 (by decide +kernel) rfl, jWs_of 2040 (by decide +kernel) rfl, jWs_of 148 (by decide +kernel) rfl, jWs_of 556 (by decide +kernel) rfl, by decide⟩
theorem ksu_J4_333 : jMsu RJ4 333 jJ5_setLength_d00df 1 := ⟨jh_J5_setLength_d00df, rfl, jWs_of 909 (by decide +kernel) rfl, jWs_of 2050 (by decide +kernel) rfl, jWs_of 148 (by decide +kernel) rfl, jWs_of 910 (by decide +kernel) rfl, by decide⟩
theorem ksu_J4_343 : jMsu RJ4 343 jJ5_length_8abf5 0 := ⟨jh_J5_length_8abf5, rfl, jWs_of 532 (by decide +kernel) rfl, jWs_of 2039 (by decide +kernel) rfl, jWs_of 148 (by decide +kernel) rfl, jWs_of 533 (by decide +kernel) rfl, by decide⟩
