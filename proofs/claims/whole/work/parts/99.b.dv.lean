/-! ===== the start: the machine around it, and the constants' texts ===== -/
section ST1
variable {s : State} {args : Array Value}
abbrev nrw : List Cond := flatC (Jvm.Cond.and given_1 narrow_1)
theorem st_amb (l : Launch) (hts : ∀ w ∈ lw_tbl, w.before args s = true) (hgv : (Jvm.Cond.and given_1 narrow_1).before args s = true) : ∃ (gC9 : Nat → ClassId) (gS9 : Nat → Nat → Nat) (gA9 : FieldType → ClassId) (gK9 : Nat → Nat), jAmb (l, gC9, gS9, gA9, gK9, s.heap.size) s s.heap := by
  have hnr := flat_of_before _ hgv
  obtain ⟨dC, dI, h1⟩ := st_kn hts
  obtain ⟨gA9, h2⟩ := st_arr hts
  obtain ⟨gK9, h3⟩ := st_str hts
  have hA : ∀ a : Nat, a < s.heap.size → ¬ jA (l, dC, dI, gA9, gK9, s.heap.size) a := fun a ha => Nat.not_le.mpr ha
  refine ⟨dC, dI, gA9, gK9, h1, h2, Nat.le_refl _, ⟨?_, ?_⟩, ⟨?_, ?_, va_Nw.of rfl (wt hts 583 (by decide +kernel)), fun y hy => ?_⟩, h3, fun E hE => ⟨va_Nw.of rfl (hts _ (ex_in E hE)), fun E' hE' hne => va_Nc.of (hnr _ (nc_in E hE E' hE' hne))⟩, fun C hC => va_AO.of (hts _ (ao_in C hC)), fun q hq => va_Nw.of rfl (hts _ (ne_in q hq)), fun q hq => va_Nw.of rfl (hts _ (de_in q hq))⟩
  · exact vx_Zqof (wt hts 483 (by decide +kernel)) (wt hts 86 (by decide +kernel)) (hnr _ (by decide +kernel : Cond.isRef (.static "java/lang/Throwable" "UNASSIGNED_STACK" "[Ljava/lang/StackTraceElement;") ∈ nrw)) hA
  · exact vx_Zqof (wt hts 485 (by decide +kernel)) (wt hts 86 (by decide +kernel)) (hnr _ (by decide +kernel : Cond.isRef (.static "java/lang/Throwable" "SUPPRESSED_SENTINEL" "Ljava/util/List;") ∈ nrw)) hA
  · exact va_Zof (wt hts 127 (by decide +kernel)) (wt hts 77 (by decide +kernel)) (va_eqt (hnr _ (by decide +kernel : Cond.eq (.static "java/lang/String" "COMPACT_STRINGS" "Z") (.int 1) ∈ nrw))) hA
  · exact va_Zqof (wt hts 407 (by decide +kernel)) (wt hts 95 (by decide +kernel)) (hnr _ (by decide +kernel : Cond.isRef (.static "jdk/internal/util/Preconditions" "SIOOBE_FORMATTER" "Ljava/util/function/BiFunction;") ∈ nrw)) hA
  · simp only [jPrv, List.mem_cons, List.not_mem_nil, or_false] at hy
    rcases hy with rfl | rfl
    · exact va_Nw.of rfl (sel_priv (x0 := ⟨"java/lang/AbstractStringBuilder", "isLatin1", "()Z"⟩) (by decide) (wt hts 592 (by decide +kernel)) rfl (wt hts 559 (by decide +kernel)) (wt hts 560 (by decide +kernel)))
    · exact va_Nw.of rfl (sel_priv (x0 := ⟨"java/lang/AbstractStringBuilder", "isLatin1", "()Z"⟩) (by decide) (wt hts 592 (by decide +kernel)) rfl (wt hts 563 (by decide +kernel)) (wt hts 564 (by decide +kernel)))
/-- a String constant with its text, as the start holds it -/
theorem st_one {own : String} {k : Nat} {t : List Nat} {G : jG} {a : Nat} (hG0 : u_Kn s RJ0 TJ0 4 (gC G 0) (gS G 0)) (ha : (Term.string own k).eval args s none [] s = some (.ref a)) (ht : t.length < 2 ^ 31) (hex : (Cond.exactly (.string own k) "java/lang/String").before args s = true) (hco : (Cond.eq (.field (.string own k) "java/lang/String" "coder" "B") (.int 0)).before args s = true) (har : (Cond.arrayOf (.field (.string own k) "java/lang/String" "value" "[B") .byte).before args s = true) (hle : (Cond.eq (.length (.field (.string own k) "java/lang/String" "value" "[B")) (.int (Int32.ofNat t.length))).before args s = true) (hel : ∀ j : Nat, j < t.length → (Cond.eq (.elem (.field (.string own k) "java/lang/String" "value" "[B") (.int (Int32.ofNat j))) (.int (tCh t j))).before args s = true) : ∃ V, jWk s G a (.inr (0, [.ref V, .int 0])) s.heap ∧ jWk s G V (.inl (.byte, t.length, fun j => .int (tCh t j))) s.heap := by
  have hm : ∀ j, j < t.length → (t.map nI).getD j 0 = tCh t j := fun j hj => by
    unfold tCh
    rw [List.getD_eq_getElem?_getD, List.getD_eq_getElem?_getD, List.getElem?_map, List.getElem?_eq_getElem hj]
    rfl
  obtain ⟨adK, adV, ⟨h1, -⟩, h2⟩ := vk_Sof (args := args) (s := s) (N := 1) (tm := fun _ => .string own k) (len := [t.length]) (byt := [t.map nI]) (A := fun q => s.heap.size ≤ q)
    (fun i hi => by obtain rfl : i = 0 := by omega
                    exact ht)
    (fun _ _ => hex) (fun _ _ => hco) (fun _ _ => har)
    (fun i hi => by obtain rfl : i = 0 := by omega
                    exact hle)
    (fun i hi j hj => by obtain rfl : i = 0 := by omega
                         have hj' : j < t.length := hj
                         show (Cond.eq _ (.int ((t.map nI).getD j 0))).before args s = true
                         rw [hm j hj']
                         exact hel j hj')
    (fun i j hi hj hij => absurd (by omega) hij) (fun a ha => Nat.not_le.mpr ha)
  obtain ⟨o1, o2, o3, o4⟩ := h1 0 (by decide)
  have e : adK 0 = a := by
    have e1 := (h2 0 (by decide)).symm.trans ha
    injection e1 with e1
    injection e1 with e1
  rw [e] at o1 o2 o3
  obtain ⟨cell, c1, c2, c3, -⟩ := o1
  obtain ⟨f1, kC, f2, f3⟩ := hG0.2
  have hcls : cell.cls = gC G 0 := Option.some.inj (c3.symm.trans f1)
  obtain ⟨cf, kf, fi, f, cell2, q1, q2, q3, q4, q5, -⟩ := o2
  obtain ⟨cf', kf', fi', f', cell3, r1, r2, r3, r4, r5, -⟩ := o3
  cases Option.some.inj (q3.symm.trans c1)
  cases Option.some.inj (r3.symm.trans c1)
  obtain ⟨_, _, _, fd0, s1, s2⟩ := hG0.1 0 (by decide)
  obtain ⟨_, _, _, fd1, s3, s4⟩ := hG0.1 1 (by decide)
  have g0 : f'.slot = gS G 0 0 := by
    have e9 := Option.some.inj (r1.symm.trans s1)
    have e8 : f' = fd0 := congrArg (fun z => z.2.2.2) e9
    rw [e8]; exact s2
  have g1 : f.slot = gS G 0 1 := by
    have e9 := Option.some.inj (q1.symm.trans s3)
    have e8 : f = fd1 := congrArg (fun z => z.2.2.2) e9
    rw [e8]; exact s4
  obtain ⟨ca, a1, a2, a3, a4, a5, a6, -⟩ := o4
  refine ⟨adV 0, ⟨(RJ0, TJ0, 4), cell, rfl, c1, hcls, c2, q4, fun k v hk hv => ?_⟩, ⟨ca, a1, a2, a3, a4, a5, fun j hj => (a6 j hj).trans (congrArg (fun z => some (Value.int z)) (hm j hj))⟩⟩
  match k, hv with
  | 0, hv => cases hv; rw [← g0]; exact r5
  | 1, hv => cases hv; rw [← g1]; exact q5
  | k + 2, hv => simp at hv
end ST1
