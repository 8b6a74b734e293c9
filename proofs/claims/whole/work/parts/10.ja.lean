/-! ===== arrays ===== -/
section JA
variable {C : jC} {y : jY} {d : Nat} {M : jM} {kc ks pc : Nat} {l : List (Option Value)} {st : List Value}
theorem j_iald (hC : jOK0 y d C) {a n : Nat} {g : Nat → Int32} {i : Int32} (hd : decode y.2.1 pc = .ok (.iaload, 1)) (hM : M.1 a = some (.inl (.int, n, fun j => .int (g j)))) (hi : vp_in i n) (kk : J C M kc ks (pc + 1) l (.int (g i.toNatClampNeg) :: st)) : J C M kc ks pc l (.int i :: .ref a :: st) := by
  obtain ⟨p, e, R, s, m, args, below, meth, c, Q, G⟩ := C
  obtain ⟨hx, hb, hr, hml, hown, hts, hlk, hnm, htb, hdf, hdl, hfl, hA⟩ := hC
  intro H locs cells slots ls h1 h2 h3 h4 h5
  obtain ⟨cell, q1, q2, q3, q4, q5, q6⟩ := (h1.2 a _ hM).wk hA
  have hlt : i.toNatClampNeg < n := Nat.not_le.mp fun q => hi (Or.inr q)
  exact W.iald (v := .int (g i.toNatClampNeg)) hx hb q1 q2 q3 (fun h => hi (h.imp id (fun z => Nat.le_trans q4 z))) (q6 _ hlt) rfl rfl hd (kk H locs cells slots ls h1 h2 h3 h4 h5)
theorem j_bald (hC : jOK0 y d C) {a n : Nat} {g : Nat → Int32} {i : Int32} (hd : decode y.2.1 pc = .ok (.baload, 1)) (hM : M.1 a = some (.inl (.byte, n, fun j => .int (g j)))) (hi : vp_in i n) (kk : J C M kc ks (pc + 1) l (.int (g i.toNatClampNeg) :: st)) : J C M kc ks pc l (.int i :: .ref a :: st) := by
  obtain ⟨p, e, R, s, m, args, below, meth, c, Q, G⟩ := C
  obtain ⟨hx, hb, hr, hml, hown, hts, hlk, hnm, htb, hdf, hdl, hfl, hA⟩ := hC
  intro H locs cells slots ls h1 h2 h3 h4 h5
  obtain ⟨cell, q1, q2, q3, q4, q5, q6⟩ := (h1.2 a _ hM).wk hA
  have hlt : i.toNatClampNeg < n := Nat.not_le.mp fun q => hi (Or.inr q)
  exact W.bald (v := .int (g i.toNatClampNeg)) hx hb q1 q2 q3 (fun h => hi (h.imp id (fun z => Nat.le_trans q4 z))) (q6 _ hlt) rfl rfl hd (kk H locs cells slots ls h1 h2 h3 h4 h5)
theorem j_zald (hC : jOK0 y d C) {a n : Nat} {g : Nat → Int32} {i : Int32} (hd : decode y.2.1 pc = .ok (.baload, 1)) (hM : M.1 a = some (.inl (.boolean, n, fun j => .int (g j)))) (hi : vp_in i n) (kk : J C M kc ks (pc + 1) l (.int (g i.toNatClampNeg) :: st)) : J C M kc ks pc l (.int i :: .ref a :: st) := by
  obtain ⟨p, e, R, s, m, args, below, meth, c, Q, G⟩ := C
  obtain ⟨hx, hb, hr, hml, hown, hts, hlk, hnm, htb, hdf, hdl, hfl, hA⟩ := hC
  intro H locs cells slots ls h1 h2 h3 h4 h5
  obtain ⟨cell, q1, q2, q3, q4, q5, q6⟩ := (h1.2 a _ hM).wk hA
  have hlt : i.toNatClampNeg < n := Nat.not_le.mp fun q => hi (Or.inr q)
  exact W.zald (v := .int (g i.toNatClampNeg)) hx hb q1 q2 q3 (fun h => hi (h.imp id (fun z => Nat.le_trans q4 z))) (q6 _ hlt) rfl rfl hd (kk H locs cells slots ls h1 h2 h3 h4 h5)
theorem j_cald (hC : jOK0 y d C) {a n : Nat} {g : Nat → Int32} {i : Int32} (hd : decode y.2.1 pc = .ok (.caload, 1)) (hM : M.1 a = some (.inl (.char, n, fun j => .int (g j)))) (hi : vp_in i n) (kk : J C M kc ks (pc + 1) l (.int (g i.toNatClampNeg) :: st)) : J C M kc ks pc l (.int i :: .ref a :: st) := by
  obtain ⟨p, e, R, s, m, args, below, meth, c, Q, G⟩ := C
  obtain ⟨hx, hb, hr, hml, hown, hts, hlk, hnm, htb, hdf, hdl, hfl, hA⟩ := hC
  intro H locs cells slots ls h1 h2 h3 h4 h5
  obtain ⟨cell, q1, q2, q3, q4, q5, q6⟩ := (h1.2 a _ hM).wk hA
  have hlt : i.toNatClampNeg < n := Nat.not_le.mp fun q => hi (Or.inr q)
  exact W.cald (v := .int (g i.toNatClampNeg)) hx hb q1 q2 q3 (fun h => hi (h.imp id (fun z => Nat.le_trans q4 z))) (q6 _ hlt) rfl rfl hd (kk H locs cells slots ls h1 h2 h3 h4 h5)
theorem j_lald (hC : jOK0 y d C) {a n : Nat} {g : Nat → Int64} {i : Int32} (hd : decode y.2.1 pc = .ok (.laload, 1)) (hM : M.1 a = some (.inl (.long, n, fun j => .long (g j)))) (hi : vp_in i n) (kk : J C M kc ks (pc + 1) l (.long (g i.toNatClampNeg) :: st)) : J C M kc ks pc l (.int i :: .ref a :: st) := by
  obtain ⟨p, e, R, s, m, args, below, meth, c, Q, G⟩ := C
  obtain ⟨hx, hb, hr, hml, hown, hts, hlk, hnm, htb, hdf, hdl, hfl, hA⟩ := hC
  intro H locs cells slots ls h1 h2 h3 h4 h5
  obtain ⟨cell, q1, q2, q3, q4, q5, q6⟩ := (h1.2 a _ hM).wk hA
  have hlt : i.toNatClampNeg < n := Nat.not_le.mp fun q => hi (Or.inr q)
  exact W.lald (v := .long (g i.toNatClampNeg)) hx hb q1 q2 q3 (fun h => hi (h.imp id (fun z => Nat.le_trans q4 z))) (q6 _ hlt) rfl rfl hd (kk H locs cells slots ls h1 h2 h3 h4 h5)
theorem j_dald (hC : jOK0 y d C) {a n : Nat} {g : Nat → UInt64} {i : Int32} (hd : decode y.2.1 pc = .ok (.daload, 1)) (hM : M.1 a = some (.inl (.double, n, fun j => .double (g j)))) (hi : vp_in i n) (kk : J C M kc ks (pc + 1) l (.double (g i.toNatClampNeg) :: st)) : J C M kc ks pc l (.int i :: .ref a :: st) := by
  obtain ⟨p, e, R, s, m, args, below, meth, c, Q, G⟩ := C
  obtain ⟨hx, hb, hr, hml, hown, hts, hlk, hnm, htb, hdf, hdl, hfl, hA⟩ := hC
  intro H locs cells slots ls h1 h2 h3 h4 h5
  obtain ⟨cell, q1, q2, q3, q4, q5, q6⟩ := (h1.2 a _ hM).wk hA
  have hlt : i.toNatClampNeg < n := Nat.not_le.mp fun q => hi (Or.inr q)
  exact W.dald (v := .double (g i.toNatClampNeg)) hx hb q1 q2 q3 (fun h => hi (h.imp id (fun z => Nat.le_trans q4 z))) (q6 _ hlt) rfl rfl hd (kk H locs cells slots ls h1 h2 h3 h4 h5)
theorem j_aald (hC : jOK0 y d C) {a n : Nat} {ty : FieldType} {f : Nat → Value} {i : Int32} {v : Value} (hd : decode y.2.1 pc = .ok (.aaload, 1)) (hM : M.1 a = some (.inl (ty, n, f))) (hty : ty.isReference = true) (hi : vp_in i n) (hv : f i.toNatClampNeg = v) (kk : J C M kc ks (pc + 1) l (v :: st)) : J C M kc ks pc l (.int i :: .ref a :: st) := by
  obtain ⟨p, e, R, s, m, args, below, meth, c, Q, G⟩ := C
  obtain ⟨hx, hb, hr, hml, hown, hts, hlk, hnm, htb, hdf, hdl, hfl, hA⟩ := hC
  intro H locs cells slots ls h1 h2 h3 h4 h5
  obtain ⟨cell, q1, q2, q3, q4, q5, q6⟩ := (h1.2 a _ hM).wk hA
  have hlt : i.toNatClampNeg < n := Nat.not_le.mp fun q => hi (Or.inr q)
  exact W.aald (v := v) hx hb q1 q2 hty q3 (fun h => hi (h.imp id (fun z => Nat.le_trans q4 z))) (by rw [← hv]; exact q6 _ hlt) rfl rfl hd (kk H locs cells slots ls h1 h2 h3 h4 h5)
theorem j_alen (hC : jOK0 y d C) {a n : Nat} {ty : FieldType} {f : Nat → Value} (hd : decode y.2.1 pc = .ok (.arraylength, 1)) (hM : M.1 a = some (.inl (ty, n, f))) (kk : J C M kc ks (pc + 1) l (.int (Int32.ofNat n) :: st)) : J C M kc ks pc l (.ref a :: st) := by
  obtain ⟨p, e, R, s, m, args, below, meth, c, Q, G⟩ := C
  obtain ⟨hx, hb, hr, hml, hown, hts, hlk, hnm, htb, hdf, hdl, hfl, hA⟩ := hC
  intro H locs cells slots ls h1 h2 h3 h4 h5
  obtain ⟨cell, q1, q2, q3, q4, q5, q6⟩ := (h1.2 a _ hM).wk hA
  exact W.alen (n := Int32.ofNat n) hx hb q1 q2 q5 rfl rfl hd (kk H locs cells slots ls h1 h2 h3 h4 h5)
theorem j_iast (hC : jOK0 y d C) {a n : Nat} {g : Nat → Int32} {i : Int32} {x : Int32} (hd : decode y.2.1 pc = .ok (.iastore, 1)) (hM : M.1 a = some (.inl (.int, n, fun j => .int (g j)))) (hB : jB C ≤ a) (hi : vp_in i n) (kk : J C (jput M a (.inl (.int, n, fun j => .int (upd g i.toNatClampNeg x j)))) kc ks (pc + 1) l st) : J C M kc ks pc l (.int x :: .int i :: .ref a :: st) := by
  obtain ⟨p, e, R, s, m, args, below, meth, c, Q, G⟩ := C
  obtain ⟨hx, hb, hr, hml, hown, hts, hlk, hnm, htb, hdf, hdl, hfl, hA⟩ := hC
  intro H locs cells slots ls h1 h2 h3 h4 h5
  have hB' : gB G ≤ a := hB
  rcases h1.2 a _ hM with ⟨-, hty, q1⟩ | ⟨hlt, -⟩
  · refine W.iast hx hb q1 ((hA.2.1 _ hty).1 n (fun j => .int (g j))) (fun q => by cases q) (by show ¬ (i < 0 ∨ (arrV _ _ _).slots.size ≤ _); rw [arrV_size]; exact hi) rfl rfl hd fun H1 e1 z oq => ?_
    refine kk H1 _ cells slots ls (h1.put hB' z ⟨hty, ?_⟩ oq) (h2.put z oq hB') h3 h4 h5
    rw [e1, arrV_store]
    congr 2
    funext q
    by_cases hq : q = i.toNatClampNeg
    · subst hq
      simp [updV, upd]
      try rfl
    · simp [updV, upd, hq]
  · exact absurd hB' (Nat.not_le.mpr hlt)
theorem j_bast (hC : jOK0 y d C) {a n : Nat} {g : Nat → Int32} {i : Int32} {x : Int32} (hd : decode y.2.1 pc = .ok (.bastore, 1)) (hM : M.1 a = some (.inl (.byte, n, fun j => .int (g j)))) (hB : jB C ≤ a) (hi : vp_in i n) (kk : J C (jput M a (.inl (.byte, n, fun j => .int (upd g i.toNatClampNeg (vp_nar .byte x) j)))) kc ks (pc + 1) l st) : J C M kc ks pc l (.int x :: .int i :: .ref a :: st) := by
  obtain ⟨p, e, R, s, m, args, below, meth, c, Q, G⟩ := C
  obtain ⟨hx, hb, hr, hml, hown, hts, hlk, hnm, htb, hdf, hdl, hfl, hA⟩ := hC
  intro H locs cells slots ls h1 h2 h3 h4 h5
  have hB' : gB G ≤ a := hB
  rcases h1.2 a _ hM with ⟨-, hty, q1⟩ | ⟨hlt, -⟩
  · refine W.bast hx hb q1 ((hA.2.1 _ hty).1 n (fun j => .int (g j))) (fun q => by cases q) (by show ¬ (i < 0 ∨ (arrV _ _ _).slots.size ≤ _); rw [arrV_size]; exact hi) rfl rfl hd fun H1 e1 z oq => ?_
    refine kk H1 _ cells slots ls (h1.put hB' z ⟨hty, ?_⟩ oq) (h2.put z oq hB') h3 h4 h5
    rw [e1, arrV_store]
    congr 2
    funext q
    by_cases hq : q = i.toNatClampNeg
    · subst hq
      simp [updV, upd, vp_nar]
      try rfl
    · simp [updV, upd, hq]
  · exact absurd hB' (Nat.not_le.mpr hlt)
theorem j_zast (hC : jOK0 y d C) {a n : Nat} {g : Nat → Int32} {i : Int32} {x : Int32} (hd : decode y.2.1 pc = .ok (.bastore, 1)) (hM : M.1 a = some (.inl (.boolean, n, fun j => .int (g j)))) (hB : jB C ≤ a) (hi : vp_in i n) (kk : J C (jput M a (.inl (.boolean, n, fun j => .int (upd g i.toNatClampNeg (vp_nar .boolean x) j)))) kc ks (pc + 1) l st) : J C M kc ks pc l (.int x :: .int i :: .ref a :: st) := by
  obtain ⟨p, e, R, s, m, args, below, meth, c, Q, G⟩ := C
  obtain ⟨hx, hb, hr, hml, hown, hts, hlk, hnm, htb, hdf, hdl, hfl, hA⟩ := hC
  intro H locs cells slots ls h1 h2 h3 h4 h5
  have hB' : gB G ≤ a := hB
  rcases h1.2 a _ hM with ⟨-, hty, q1⟩ | ⟨hlt, -⟩
  · refine W.zast hx hb q1 ((hA.2.1 _ hty).1 n (fun j => .int (g j))) (fun q => by cases q) (by show ¬ (i < 0 ∨ (arrV _ _ _).slots.size ≤ _); rw [arrV_size]; exact hi) rfl rfl hd fun H1 e1 z oq => ?_
    refine kk H1 _ cells slots ls (h1.put hB' z ⟨hty, ?_⟩ oq) (h2.put z oq hB') h3 h4 h5
    rw [e1, arrV_store]
    congr 2
    funext q
    by_cases hq : q = i.toNatClampNeg
    · subst hq
      simp [updV, upd, vp_nar]
      try rfl
    · simp [updV, upd, hq]
  · exact absurd hB' (Nat.not_le.mpr hlt)
theorem j_cast (hC : jOK0 y d C) {a n : Nat} {g : Nat → Int32} {i : Int32} {x : Int32} (hd : decode y.2.1 pc = .ok (.castore, 1)) (hM : M.1 a = some (.inl (.char, n, fun j => .int (g j)))) (hB : jB C ≤ a) (hi : vp_in i n) (kk : J C (jput M a (.inl (.char, n, fun j => .int (upd g i.toNatClampNeg (vp_nar .char x) j)))) kc ks (pc + 1) l st) : J C M kc ks pc l (.int x :: .int i :: .ref a :: st) := by
  obtain ⟨p, e, R, s, m, args, below, meth, c, Q, G⟩ := C
  obtain ⟨hx, hb, hr, hml, hown, hts, hlk, hnm, htb, hdf, hdl, hfl, hA⟩ := hC
  intro H locs cells slots ls h1 h2 h3 h4 h5
  have hB' : gB G ≤ a := hB
  rcases h1.2 a _ hM with ⟨-, hty, q1⟩ | ⟨hlt, -⟩
  · refine W.cast hx hb q1 ((hA.2.1 _ hty).1 n (fun j => .int (g j))) (fun q => by cases q) (by show ¬ (i < 0 ∨ (arrV _ _ _).slots.size ≤ _); rw [arrV_size]; exact hi) rfl rfl hd fun H1 e1 z oq => ?_
    refine kk H1 _ cells slots ls (h1.put hB' z ⟨hty, ?_⟩ oq) (h2.put z oq hB') h3 h4 h5
    rw [e1, arrV_store]
    congr 2
    funext q
    by_cases hq : q = i.toNatClampNeg
    · subst hq
      simp [updV, upd, vp_nar]
      try rfl
    · simp [updV, upd, hq]
  · exact absurd hB' (Nat.not_le.mpr hlt)
theorem j_last (hC : jOK0 y d C) {a n : Nat} {g : Nat → Int64} {i : Int32} {x : Int64} (hd : decode y.2.1 pc = .ok (.lastore, 1)) (hM : M.1 a = some (.inl (.long, n, fun j => .long (g j)))) (hB : jB C ≤ a) (hi : vp_in i n) (kk : J C (jput M a (.inl (.long, n, fun j => .long (vf_upd g i.toNatClampNeg x j)))) kc ks (pc + 1) l st) : J C M kc ks pc l (.long x :: .int i :: .ref a :: st) := by
  obtain ⟨p, e, R, s, m, args, below, meth, c, Q, G⟩ := C
  obtain ⟨hx, hb, hr, hml, hown, hts, hlk, hnm, htb, hdf, hdl, hfl, hA⟩ := hC
  intro H locs cells slots ls h1 h2 h3 h4 h5
  have hB' : gB G ≤ a := hB
  rcases h1.2 a _ hM with ⟨-, hty, q1⟩ | ⟨hlt, -⟩
  · refine W.last hx hb q1 ((hA.2.1 _ hty).1 n (fun j => .long (g j))) (fun q => by cases q) (by show ¬ (i < 0 ∨ (arrV _ _ _).slots.size ≤ _); rw [arrV_size]; exact hi) rfl rfl hd fun H1 e1 z oq => ?_
    refine kk H1 _ cells slots ls (h1.put hB' z ⟨hty, ?_⟩ oq) (h2.put z oq hB') h3 h4 h5
    rw [e1, arrV_store]
    congr 2
    funext q
    by_cases hq : q = i.toNatClampNeg
    · subst hq
      simp [updV, vf_upd]
      try rfl
    · simp [updV, vf_upd, hq]
  · exact absurd hB' (Nat.not_le.mpr hlt)
theorem j_dast (hC : jOK0 y d C) {a n : Nat} {g : Nat → UInt64} {i : Int32} {x : UInt64} (hd : decode y.2.1 pc = .ok (.dastore, 1)) (hM : M.1 a = some (.inl (.double, n, fun j => .double (g j)))) (hB : jB C ≤ a) (hi : vp_in i n) (kk : J C (jput M a (.inl (.double, n, fun j => .double (vf_upd g i.toNatClampNeg x j)))) kc ks (pc + 1) l st) : J C M kc ks pc l (.double x :: .int i :: .ref a :: st) := by
  obtain ⟨p, e, R, s, m, args, below, meth, c, Q, G⟩ := C
  obtain ⟨hx, hb, hr, hml, hown, hts, hlk, hnm, htb, hdf, hdl, hfl, hA⟩ := hC
  intro H locs cells slots ls h1 h2 h3 h4 h5
  have hB' : gB G ≤ a := hB
  rcases h1.2 a _ hM with ⟨-, hty, q1⟩ | ⟨hlt, -⟩
  · refine W.dast hx hb q1 ((hA.2.1 _ hty).1 n (fun j => .double (g j))) (fun q => by cases q) (by show ¬ (i < 0 ∨ (arrV _ _ _).slots.size ≤ _); rw [arrV_size]; exact hi) rfl rfl hd fun H1 e1 z oq => ?_
    refine kk H1 _ cells slots ls (h1.put hB' z ⟨hty, ?_⟩ oq) (h2.put z oq hB') h3 h4 h5
    rw [e1, arrV_store]
    congr 2
    funext q
    by_cases hq : q = i.toNatClampNeg
    · subst hq
      simp [updV, vf_upd]
      try rfl
    · simp [updV, vf_upd, hq]
  · exact absurd hB' (Nat.not_le.mpr hlt)
theorem j_aast (hC : jOK0 y d C) {a b n ci : Nat} {r : vw_C} {f : Nat → Value} {fs : List Value} {i : Int32} (hd : decode y.2.1 pc = .ok (.aastore, 1)) (hM : M.1 a = some (.inl (.object r.1, n, f))) (hV : M.1 b = some (.inr (ci, fs))) (hc : vwCl[ci]? = some r) (hB : jB C ≤ a) (hi : vp_in i n) (kk : J C (jput M a (.inl (.object r.1, n, updV f i.toNatClampNeg (.ref b)))) kc ks (pc + 1) l st) : J C M kc ks pc l (.ref b :: .int i :: .ref a :: st) := by
  obtain ⟨p, e, R, s, m, args, below, meth, c, Q, G⟩ := C
  obtain ⟨hx, hb, hr, hml, hown, hts, hlk, hnm, htb, hdf, hdl, hfl, hA⟩ := hC
  intro H locs cells slots ls h1 h2 h3 h4 h5
  have hB' : gB G ≤ a := hB
  rcases h1.2 a _ hM with ⟨-, hty, q1⟩ | ⟨hlt, -⟩
  · have hlt : i.toNatClampNeg < n := Nat.not_le.mp fun q => hi (Or.inr q)
    have h0 : ¬ i < 0 := fun q => hi (Or.inl q)
    obtain ⟨r', cellV, z1, z2, z3, z4, z5, -⟩ := (h1.2 b _ hV).wk hA
    cases z1.symm.trans hc
    have hcls := (hA.1 ci r hc).2
    obtain ⟨kA, comp, k1, k2, k3, -⟩ := (hA.2.1 _ hty).2
    have hcomp : comp = gC G ci := Option.some.inj (k3.symm.trans hcls.1)
    subst hcomp
    obtain ⟨kC, hkC, -⟩ := hcls.2
    refine W.aast hx hb q1 (fun q h => by cases h) (fun h => by cases h) k1 k2 rfl hkC ⟨h0, by show _ < (arrV _ _ _).slots.size; rw [arrV_size]; exact hlt⟩ z2 (fun q h => by rw [h] at z4; cases z4) (by rw [z3]; exact hkC) (by rw [z3]; exact va_assign hcls) rfl rfl hd fun H1 e1 z oq => ?_
    refine kk H1 _ cells slots ls (h1.put hB' z ⟨hty, ?_⟩ oq) (h2.put z oq hB') h3 h4 h5
    rw [e1, arrV_store]
  · exact absurd hB' (Nat.not_le.mpr hlt)
theorem j_anew (hC : jOK0 y d C) {idx N : Nat} {Cn : String} {n : Int32} (hcl : Cond.classLink y.1.cls idx Cn ∈ jWs) (hCn : Cn ∈ [RX5, RX6, RX1, RX4, RX8]) (hd : decode y.2.1 pc = .ok (.anewarray idx, 3)) (hn : ¬ n < 0) (hN : n.toNatClampNeg = N) (hby : N * 4 ≤ 536870912) (hkc : 1 ≤ kc) (hks : N ≤ ks) (kk : J C (jnew M (.inl (.object Cn, N, fun _ => .null))) (kc - 1) (ks - N) (pc + 3) l (.ref M.2 :: st)) : J C M kc ks pc l (.int n :: st) := by
  obtain ⟨p, e, R, s, m, args, below, meth, c, Q, G⟩ := C
  obtain ⟨hx, hb, hr, hml, hown, hts, hlk, hnm, htb, hdf, hdl, hfl, hA⟩ := hC
  intro H locs cells slots ls h1 h2 h3 h4 h5
  subst hN
  have hty : FieldType.object Cn ∈ jTys := by
    simp only [List.mem_cons, List.mem_nil_iff, or_false] at hCn
    rcases hCn with rfl | rfl | rfl | rfl | rfl <;> simp [jTys]
  refine W.anew hx hb hown (hts _ hcl) (va_AO.use (hA.2.2.2.2.2.2.2.1 Cn hCn)) rfl hd rfl hn hby (by omega) (by omega) fun cA kA comp f1 f2 f3 f4 => ?_
  generalize hH1 : H.push ({ cls := cA, slots := Array.replicate n.toNatClampNeg .null, vm := .none } : Cell) = H1
  have z1 : H1.size = H.size + 1 := by rw [← hH1, Array.size_push]
  have e1 : H1[H.size]? = some (arrV cA n.toNatClampNeg (fun _ => .null)) := by rw [← hH1, Array.getElem?_push_size, ← arrV_new]
  have o1 : ∀ q : Nat, q < H.size → H1[q]? = H[q]? := fun q hq => by rw [← hH1, Array.getElem?_push, if_neg (Nat.ne_of_lt hq)]
  have e9 : H.size = M.2 := h1.1
  obtain ⟨_, _, _, _, _, k4⟩ := (hA.2.1 _ hty).2
  have hcA : cA = gA G (.object Cn) := Option.some.inj (f1.symm.trans k4)
  have hR := h1.new (o := .inl (.object Cn, n.toNatClampNeg, fun _ => .null)) (Nat.le_trans hA.2.2.1 h2.1) z1 ⟨hty, by rw [e1, hcA]⟩ o1
  rw [e9]
  exact kk H1 locs _ _ ls hR (jS_new h2 z1 o1) h3 (by omega) (by omega)
theorem j_newa_int (hC : jOK0 y d C) {N : Nat} {n : Int32} (harr : Cond.arrayClass .int ∈ jWs) (hd : decode y.2.1 pc = .ok (.newarray .int, 2)) (hn : ¬ n < 0) (hN : n.toNatClampNeg = N) (hby : N * 8 ≤ 536870912) (hkc : 1 ≤ kc) (hks : N ≤ ks) (kk : J C (jnew M (.inl (.int, N, fun j => .int ((fun _ => (0 : Int32)) j)))) (kc - 1) (ks - N) (pc + 2) l (.ref M.2 :: st)) : J C M kc ks pc l (.int n :: st) := by
  obtain ⟨p, e, R, s, m, args, below, meth, c, Q, G⟩ := C
  obtain ⟨hx, hb, hr, hml, hown, hts, hlk, hnm, htb, hdf, hdl, hfl, hA⟩ := hC
  intro H locs cells slots ls h1 h2 h3 h4 h5
  have hty : .int ∈ jTys := by simp [jTys]
  refine va_newaK (atype := .int) hx hb (hts _ harr) rfl hd rfl hn hN (Nat.le_trans (Nat.mul_le_mul_left N (by decide)) hby) (by omega) (by omega) rfl fun H1 cA e1 z1 o1 hAr hNm => ?_
  have e9 : H.size = M.2 := h1.1
  have hcA : cA = gA G .int := Option.some.inj (hNm.symm.trans (hA.2.1 _ hty).2)
  have hR := h1.new (o := .inl (.int, N, fun j => .int ((fun _ => (0 : Int32)) j))) (Nat.le_trans hA.2.2.1 h2.1) z1 ⟨hty, by rw [e1, hcA]; rfl⟩ o1
  rw [e9]
  exact kk H1 locs _ _ ls hR (jS_new h2 z1 o1) h3 (by omega) (by omega)
theorem j_newa_char (hC : jOK0 y d C) {N : Nat} {n : Int32} (harr : Cond.arrayClass .char ∈ jWs) (hd : decode y.2.1 pc = .ok (.newarray .char, 2)) (hn : ¬ n < 0) (hN : n.toNatClampNeg = N) (hby : N * 8 ≤ 536870912) (hkc : 1 ≤ kc) (hks : N ≤ ks) (kk : J C (jnew M (.inl (.char, N, fun j => .int ((fun _ => (0 : Int32)) j)))) (kc - 1) (ks - N) (pc + 2) l (.ref M.2 :: st)) : J C M kc ks pc l (.int n :: st) := by
  obtain ⟨p, e, R, s, m, args, below, meth, c, Q, G⟩ := C
  obtain ⟨hx, hb, hr, hml, hown, hts, hlk, hnm, htb, hdf, hdl, hfl, hA⟩ := hC
  intro H locs cells slots ls h1 h2 h3 h4 h5
  have hty : .char ∈ jTys := by simp [jTys]
  refine va_newaK (atype := .char) hx hb (hts _ harr) rfl hd rfl hn hN (Nat.le_trans (Nat.mul_le_mul_left N (by decide)) hby) (by omega) (by omega) rfl fun H1 cA e1 z1 o1 hAr hNm => ?_
  have e9 : H.size = M.2 := h1.1
  have hcA : cA = gA G .char := Option.some.inj (hNm.symm.trans (hA.2.1 _ hty).2)
  have hR := h1.new (o := .inl (.char, N, fun j => .int ((fun _ => (0 : Int32)) j))) (Nat.le_trans hA.2.2.1 h2.1) z1 ⟨hty, by rw [e1, hcA]; rfl⟩ o1
  rw [e9]
  exact kk H1 locs _ _ ls hR (jS_new h2 z1 o1) h3 (by omega) (by omega)
theorem j_newa_byte (hC : jOK0 y d C) {N : Nat} {n : Int32} (harr : Cond.arrayClass .byte ∈ jWs) (hd : decode y.2.1 pc = .ok (.newarray .byte, 2)) (hn : ¬ n < 0) (hN : n.toNatClampNeg = N) (hby : N * 8 ≤ 536870912) (hkc : 1 ≤ kc) (hks : N ≤ ks) (kk : J C (jnew M (.inl (.byte, N, fun j => .int ((fun _ => (0 : Int32)) j)))) (kc - 1) (ks - N) (pc + 2) l (.ref M.2 :: st)) : J C M kc ks pc l (.int n :: st) := by
  obtain ⟨p, e, R, s, m, args, below, meth, c, Q, G⟩ := C
  obtain ⟨hx, hb, hr, hml, hown, hts, hlk, hnm, htb, hdf, hdl, hfl, hA⟩ := hC
  intro H locs cells slots ls h1 h2 h3 h4 h5
  have hty : .byte ∈ jTys := by simp [jTys]
  refine va_newaK (atype := .byte) hx hb (hts _ harr) rfl hd rfl hn hN (Nat.le_trans (Nat.mul_le_mul_left N (by decide)) hby) (by omega) (by omega) rfl fun H1 cA e1 z1 o1 hAr hNm => ?_
  have e9 : H.size = M.2 := h1.1
  have hcA : cA = gA G .byte := Option.some.inj (hNm.symm.trans (hA.2.1 _ hty).2)
  have hR := h1.new (o := .inl (.byte, N, fun j => .int ((fun _ => (0 : Int32)) j))) (Nat.le_trans hA.2.2.1 h2.1) z1 ⟨hty, by rw [e1, hcA]; rfl⟩ o1
  rw [e9]
  exact kk H1 locs _ _ ls hR (jS_new h2 z1 o1) h3 (by omega) (by omega)
theorem j_newa_long (hC : jOK0 y d C) {N : Nat} {n : Int32} (harr : Cond.arrayClass .long ∈ jWs) (hd : decode y.2.1 pc = .ok (.newarray .long, 2)) (hn : ¬ n < 0) (hN : n.toNatClampNeg = N) (hby : N * 8 ≤ 536870912) (hkc : 1 ≤ kc) (hks : N ≤ ks) (kk : J C (jnew M (.inl (.long, N, fun j => .long ((fun _ => (0 : Int64)) j)))) (kc - 1) (ks - N) (pc + 2) l (.ref M.2 :: st)) : J C M kc ks pc l (.int n :: st) := by
  obtain ⟨p, e, R, s, m, args, below, meth, c, Q, G⟩ := C
  obtain ⟨hx, hb, hr, hml, hown, hts, hlk, hnm, htb, hdf, hdl, hfl, hA⟩ := hC
  intro H locs cells slots ls h1 h2 h3 h4 h5
  have hty : .long ∈ jTys := by simp [jTys]
  refine va_newaK (atype := .long) hx hb (hts _ harr) rfl hd rfl hn hN (Nat.le_trans (Nat.mul_le_mul_left N (by decide)) hby) (by omega) (by omega) rfl fun H1 cA e1 z1 o1 hAr hNm => ?_
  have e9 : H.size = M.2 := h1.1
  have hcA : cA = gA G .long := Option.some.inj (hNm.symm.trans (hA.2.1 _ hty).2)
  have hR := h1.new (o := .inl (.long, N, fun j => .long ((fun _ => (0 : Int64)) j))) (Nat.le_trans hA.2.2.1 h2.1) z1 ⟨hty, by rw [e1, hcA]; rfl⟩ o1
  rw [e9]
  exact kk H1 locs _ _ ls hR (jS_new h2 z1 o1) h3 (by omega) (by omega)
theorem j_newa_double (hC : jOK0 y d C) {N : Nat} {n : Int32} (harr : Cond.arrayClass .double ∈ jWs) (hd : decode y.2.1 pc = .ok (.newarray .double, 2)) (hn : ¬ n < 0) (hN : n.toNatClampNeg = N) (hby : N * 8 ≤ 536870912) (hkc : 1 ≤ kc) (hks : N ≤ ks) (kk : J C (jnew M (.inl (.double, N, fun j => .double ((fun _ => (0 : UInt64)) j)))) (kc - 1) (ks - N) (pc + 2) l (.ref M.2 :: st)) : J C M kc ks pc l (.int n :: st) := by
  obtain ⟨p, e, R, s, m, args, below, meth, c, Q, G⟩ := C
  obtain ⟨hx, hb, hr, hml, hown, hts, hlk, hnm, htb, hdf, hdl, hfl, hA⟩ := hC
  intro H locs cells slots ls h1 h2 h3 h4 h5
  have hty : .double ∈ jTys := by simp [jTys]
  refine va_newaK (atype := .double) hx hb (hts _ harr) rfl hd rfl hn hN (Nat.le_trans (Nat.mul_le_mul_left N (by decide)) hby) (by omega) (by omega) rfl fun H1 cA e1 z1 o1 hAr hNm => ?_
  have e9 : H.size = M.2 := h1.1
  have hcA : cA = gA G .double := Option.some.inj (hNm.symm.trans (hA.2.1 _ hty).2)
  have hR := h1.new (o := .inl (.double, N, fun j => .double ((fun _ => (0 : UInt64)) j))) (Nat.le_trans hA.2.2.1 h2.1) z1 ⟨hty, by rw [e1, hcA]; rfl⟩ o1
  rw [e9]
  exact kk H1 locs _ _ ls hR (jS_new h2 z1 o1) h3 (by omega) (by omega)
theorem j_newa_boolean (hC : jOK0 y d C) {N : Nat} {n : Int32} (harr : Cond.arrayClass .boolean ∈ jWs) (hd : decode y.2.1 pc = .ok (.newarray .boolean, 2)) (hn : ¬ n < 0) (hN : n.toNatClampNeg = N) (hby : N * 8 ≤ 536870912) (hkc : 1 ≤ kc) (hks : N ≤ ks) (kk : J C (jnew M (.inl (.boolean, N, fun j => .int ((fun _ => (0 : Int32)) j)))) (kc - 1) (ks - N) (pc + 2) l (.ref M.2 :: st)) : J C M kc ks pc l (.int n :: st) := by
  obtain ⟨p, e, R, s, m, args, below, meth, c, Q, G⟩ := C
  obtain ⟨hx, hb, hr, hml, hown, hts, hlk, hnm, htb, hdf, hdl, hfl, hA⟩ := hC
  intro H locs cells slots ls h1 h2 h3 h4 h5
  have hty : .boolean ∈ jTys := by simp [jTys]
  refine va_newaK (atype := .boolean) hx hb (hts _ harr) rfl hd rfl hn hN (Nat.le_trans (Nat.mul_le_mul_left N (by decide)) hby) (by omega) (by omega) rfl fun H1 cA e1 z1 o1 hAr hNm => ?_
  have e9 : H.size = M.2 := h1.1
  have hcA : cA = gA G .boolean := Option.some.inj (hNm.symm.trans (hA.2.1 _ hty).2)
  have hR := h1.new (o := .inl (.boolean, N, fun j => .int ((fun _ => (0 : Int32)) j))) (Nat.le_trans hA.2.2.1 h2.1) z1 ⟨hty, by rw [e1, hcA]; rfl⟩ o1
  rw [e9]
  exact kk H1 locs _ _ ls hR (jS_new h2 z1 o1) h3 (by omega) (by omega)
end JA
