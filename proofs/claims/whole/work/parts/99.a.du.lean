/-! ===== the start: what the tables say ===== -/
section ST0
variable {s : State} {args : Array Value}
theorem wt (hts : ∀ w ∈ lw_tbl, w.before args s = true) (i : Nat) {w : Cond} (h : lw_tbl[i]? = some w) : w.before args s = true := hts w (List.mem_of_getElem? h)
theorem hts_j (hts : ∀ w ∈ lw_tbl, w.before args s = true) : ∀ w ∈ jWs, w.before args s = true := fun w hw => hts w (List.mem_filter.mp hw).1
theorem st_kn0 (hts : ∀ w ∈ lw_tbl, w.before args s = true) : ∀ (k : Nat) (q : vw_C), vwCl[k]? = some q → ∃ (c : ClassId) (i : Nat → Nat), u_Kn s q.1 q.2.1 q.2.2 c i := fun k q hq => match k, hq with
  | 0, hq => by cases hq; exact u_known (C := RJ0) (T := TJ0) (N := 4) (n := 4) (hts_j hts) uin_J0 (wt hts 701 (by decide +kernel))
  | 1, hq => by cases hq; exact u_known (C := RJ4) (T := TJ4) (N := 4) (n := 4) (hts_j hts) uin_J4 (wt hts 118 (by decide +kernel))
  | 2, hq => by cases hq; exact u_known (C := RJx00060) (T := TJx00060) (N := 6) (n := 6) (hts_j hts) uin_Jx00060 (wt hts 683 (by decide +kernel))
  | 3, hq => by cases hq; exact u_known (C := RJx7c733) (T := TJx7c733) (N := 6) (n := 6) (hts_j hts) uin_Jx7c733 (wt hts 913 (by decide +kernel))
  | 4, hq => by cases hq; exact u_known (C := RX0) (T := TX0) (N := 4) (n := 4) (hts_j hts) uin_X0 (wt hts 1267 (by decide +kernel))
  | 5, hq => by cases hq; exact u_known (C := RX1) (T := TX1) (N := 3) (n := 3) (hts_j hts) uin_X1 (wt hts 646 (by decide +kernel))
  | 6, hq => by cases hq; exact u_known (C := RX2) (T := TX2) (N := 6) (n := 6) (hts_j hts) uin_X2 (wt hts 163 (by decide +kernel))
  | 7, hq => by cases hq; exact u_known (C := RX3) (T := TX3) (N := 2) (n := 2) (hts_j hts) uin_X3 (wt hts 252 (by decide +kernel))
  | 8, hq => by cases hq; exact u_known (C := RX4) (T := TX4) (N := 11) (n := 11) (hts_j hts) uin_X4 (wt hts 1095 (by decide +kernel))
  | 9, hq => by cases hq; exact u_known (C := RX5) (T := TX5) (N := 8) (n := 8) (hts_j hts) uin_X5 (wt hts 151 (by decide +kernel))
  | 10, hq => by cases hq; exact u_known (C := RX6) (T := TX6) (N := 7) (n := 7) (hts_j hts) uin_X6 (wt hts 259 (by decide +kernel))
  | 11, hq => by cases hq; exact u_known (C := RX7) (T := TX7) (N := 6) (n := 6) (hts_j hts) uin_X7 (wt hts 1052 (by decide +kernel))
  | 12, hq => by cases hq; exact u_known (C := RX8) (T := TX8) (N := 1) (n := 1) (hts_j hts) uin_X8 (wt hts 203 (by decide +kernel))
  | 13, hq => by cases hq; exact u_known (C := RX9) (T := TX9) (N := 10) (n := 10) (hts_j hts) uin_X9 (wt hts 110 (by decide +kernel))
  | 14, hq => by cases hq; exact u_known (C := RX10) (T := TX10) (N := 36) (n := 36) (hts_j hts) uin_X10 (wt hts 1601 (by decide +kernel))
  | k + 15, hq => by simp [vwCl] at hq
theorem st_kn (hts : ∀ w ∈ lw_tbl, w.before args s = true) : ∃ (dC : Nat → ClassId) (dI : Nat → Nat → Nat), ∀ (k : Nat) (q : vw_C), vwCl[k]? = some q → u_Kn s q.1 q.2.1 q.2.2 (dC k) (dI k) := by
  have h : ∀ k : Nat, ∃ p : ClassId × (Nat → Nat), ∀ q : vw_C, vwCl[k]? = some q → u_Kn s q.1 q.2.1 q.2.2 p.1 p.2 := fun k => by
    cases e : vwCl[k]? with
    | none => exact ⟨(0, fun _ => 0), fun q hq => by cases hq⟩
    | some q0 =>
      obtain ⟨c, i, h⟩ := st_kn0 hts k q0 e
      exact ⟨(c, i), fun q hq => by cases hq; exact h⟩
  obtain ⟨f, hf⟩ := Classical.axiomOfChoice h
  exact ⟨fun k => (f k).1, fun k => (f k).2, hf⟩
theorem arr_p {ty : FieldType} (h : (Cond.arrayClass ty).before args s = true) (hp : ∀ cA : ClassId, s.vm.findClass ("[" ++ ty.toString) = some cA → va_RA s cA ty) : ∃ cA : ClassId, ArrOfT s cA ty ∧ va_RA s cA ty := by
  obtain ⟨c, k, comp, h1, h2, h3⟩ := Cond.arrayClass_spec h
  exact ⟨c, fun n z => ⟨fun _ h9 => (by cases h9), k, h2, comp, h3⟩, hp c h1⟩
theorem arr_o {C : String} (h : (Cond.arrayOver (.object C)).before args s = true) : ∃ cA : ClassId, ArrOfT s cA (.object C) ∧ va_RA s cA (.object C) := by
  obtain ⟨comp, c, k, h1, h2, h3, h4, h5⟩ := Cond.arrayOver_spec h
  exact ⟨c, fun n z => ⟨fun _ h9 => (by cases h9), k, h3, comp, h4⟩, k, comp, h3, h4, h1, h5⟩
theorem st_arr (hts : ∀ w ∈ lw_tbl, w.before args s = true) : ∃ gA : FieldType → ClassId, ∀ ty ∈ jTys, ArrOfT s (gA ty) ty ∧ va_RA s (gA ty) ty := by
  have h0 : ∀ ty ∈ jTys, ∃ cA : ClassId, ArrOfT s cA ty ∧ va_RA s cA ty := fun ty hty => by
    simp only [jTys, List.mem_cons, List.not_mem_nil, or_false] at hty
    rcases hty with rfl | rfl | rfl | rfl | rfl | rfl | rfl | rfl | rfl | rfl | rfl
    · exact arr_p (wt hts 149 (by decide +kernel)) (fun _ h => h)
    · exact arr_p (wt hts 293 (by decide +kernel)) (fun _ h => h)
    · exact arr_p (wt hts 294 (by decide +kernel)) (fun _ h => h)
    · exact arr_p (wt hts 2036 (by decide +kernel)) (fun _ h => h)
    · exact arr_p (wt hts 2037 (by decide +kernel)) (fun _ h => h)
    · exact arr_p (wt hts 1715 (by decide +kernel)) (fun _ h => h)
    · exact arr_o (wt hts 250 (by decide +kernel))
    · exact arr_o (wt hts 258 (by decide +kernel))
    · exact arr_o (wt hts 157 (by decide +kernel))
    · exact arr_o (wt hts 172 (by decide +kernel))
    · exact arr_o (wt hts 651 (by decide +kernel))
  have h : ∀ ty : FieldType, ∃ cA : ClassId, ty ∈ jTys → ArrOfT s cA ty ∧ va_RA s cA ty := fun ty => by
    by_cases e : ty ∈ jTys
    · obtain ⟨c, hc⟩ := h0 ty e
      exact ⟨c, fun _ => hc⟩
    · exact ⟨0, fun h => absurd h e⟩
  obtain ⟨f, hf⟩ := Classical.axiomOfChoice h
  exact ⟨f, hf⟩
theorem sref_ev {own tx : String} {k : Nat} (h : (Cond.stringRef own k tx).before args s = true) : ∃ a, (Term.string own k).eval args s none [] s = some (.ref a) := by
  cases hc : s.vm.findClass own with
  | some cur =>
    obtain ⟨_, _, _, a, _, _, _, _, _, h9⟩ := Cond.stringRef_spec hc h
    exact ⟨a, h9⟩
  | none =>
    simp [Cond.before, Cond.holds, Cond.value, State.resolvedAt?, hc] at h
theorem jCs_in : ∀ q ∈ jCs, Cond.stringRef q.1 q.2.1 q.2.2 ∈ lw_tbl := by decide +kernel
theorem st_str (hts : ∀ w ∈ lw_tbl, w.before args s = true) : ∃ gKf : Nat → Nat, ∀ (i : Nat) (q : String × Nat × String), jCs[i]? = some q → vk_R q.1 q.2.1 q.2.2 (gKf i) s := by
  have h : ∀ i : Nat, ∃ a : Nat, ∀ q : String × Nat × String, jCs[i]? = some q → vk_R q.1 q.2.1 q.2.2 a s := fun i => by
    cases e : jCs[i]? with
    | none => exact ⟨0, fun q hq => by cases hq⟩
    | some q0 =>
      have h1 := hts _ (jCs_in q0 (List.mem_of_getElem? e))
      obtain ⟨a, ha⟩ := sref_ev h1
      exact ⟨a, fun q hq => by cases hq; exact vk_R.of h1 ha⟩
  obtain ⟨f, hf⟩ := Classical.axiomOfChoice h
  exact ⟨f, hf⟩
theorem ex_in : ∀ E ∈ jExs, Cond.castable E E ∈ lw_tbl := by decide +kernel
theorem ao_in : ∀ C ∈ [RX5, RX6, RX1, RX4, RX8], Cond.arrayOver (.object C) ∈ lw_tbl := by decide +kernel
theorem ne_in : ∀ q ∈ jNests, Cond.methodLinkNest q.1 q.2.1 q.2.2.1 q.2.2.2 ∈ lw_tbl := by decide +kernel
theorem de_in : ∀ q ∈ jDec, Cond.declares q ∈ lw_tbl := by decide +kernel
theorem nc_in : ∀ E ∈ jExs, ∀ E' ∈ jExs, E ≠ E' → Cond.not (.castable E E') ∈ flatC (Jvm.Cond.and given_1 narrow_1) := by decide +kernel
end ST0
