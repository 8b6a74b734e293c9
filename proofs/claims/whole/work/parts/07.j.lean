/-! THE JUDGEMENT J: a frame of a method over an abstract heap (addresses to objects); all else of the machine stands in one bundle C -/
abbrev jO : Type := (FieldType × Nat × (Nat → Value)) ⊕ (Nat × List Value)
abbrev jM : Type := (Nat → Option jO) × Nat
/-- launch, class numbers, field places, array classes, the String constants' addresses, the first address that is ours -/
abbrev jG : Type := Launch × (Nat → ClassId) × (Nat → Nat → Nat) × (FieldType → ClassId) × (Nat → Nat) × Nat
abbrev gL (G : jG) : Launch := G.1
abbrev gC (G : jG) : Nat → ClassId := G.2.1
abbrev gS (G : jG) : Nat → Nat → Nat := G.2.2.1
abbrev gA (G : jG) : FieldType → ClassId := G.2.2.2.1
abbrev gK (G : jG) : Nat → Nat := G.2.2.2.2.1
abbrev gB (G : jG) : Nat := G.2.2.2.2.2
def jA (G : jG) : Nat → Prop := fun q => gB G ≤ q
def jTys : List FieldType := [.byte, .char, .int, .long, .double, .boolean, .object RX5, .object RX6, .object RX1, .object RX4, .object RX8]
def jSt (G : jG) (a : Nat) (o : jO) (H : Heap) : Prop := match o with
  | .inl (ty, n, f) => ty ∈ jTys ∧ H[a]? = some (arrV (gA G ty) n f)
  | .inr (ci, fs) => ∃ r : vw_C, vwCl[ci]? = some r ∧ fs.length = r.2.2 ∧ t_OB a (gC G ci) r.2.2 (gS G ci) H (vp_V fs)
def jWk (U : State) (G : jG) (a : Nat) (o : jO) (H : Heap) : Prop := match o with
  | .inl (ty, n, f) => ∃ cell : Cell, H[a]? = some cell ∧ U.isArrayOf cell ty ∧ cell.vm ≠ .unknown ∧ n ≤ cell.slots.size ∧ cell.slots.size.toInt32 = Int32.ofNat n ∧ ∀ j, j < n → cell.slots[j]? = some (f j)
  | .inr (ci, fs) => ∃ (r : vw_C) (cell : Cell), vwCl[ci]? = some r ∧ H[a]? = some cell ∧ cell.cls = gC G ci ∧ cell.vm.isStatics = false ∧ cell.vm ≠ .unknown ∧ ∀ k v, k < r.2.2 → fs[k]? = some v → cell.slots[gS G ci k]? = some v
def jAt (U : State) (G : jG) (a : Nat) (o : jO) (H : Heap) : Prop := (gB G ≤ a ∧ jSt G a o H) ∨ (a < gB G ∧ jWk U G a o H)
def jRel (G : jG) (M : jM) (U : State) (H : Heap) : Prop := H.size = M.2 ∧ ∀ a o, M.1 a = some o → jAt U G a o H
/-- private methods of StringBuilder's parent -/
def jPrv : List MethodName := [⟨"java/lang/AbstractStringBuilder", "ensureCapacityInternal", "(I)V"⟩, ⟨"java/lang/AbstractStringBuilder", "newCapacity", "(I)I"⟩]
/-- what the tables and the old heap say, in every state of the run -/
def jAmb (G : jG) (U : State) (H : Heap) : Prop :=
  (∀ (c : Nat) (q : vw_C), vwCl[c]? = some q → u_Kn U q.1 q.2.1 q.2.2 (gC G c) (gS G c)) ∧
  (∀ ty ∈ jTys, ArrOfT U (gA G ty) ty ∧ va_RA U (gA G ty) ty) ∧
  gB G ≤ H.size ∧
  (vx_Zq Bundle.tN "UNASSIGNED_STACK" Bundle.steD (jA G) U H ∧ vx_Zq Bundle.tN "SUPPRESSED_SENTINEL" Bundle.listD (jA G) U H) ∧
  (va_Z "java/lang/String" "COMPACT_STRINGS" "Z" (.int 1) (jA G) U H ∧ va_Zq "jdk/internal/util/Preconditions" "SIOOBE_FORMATTER" "Ljava/util/function/BiFunction;" (jA G) U H ∧ va_Nw (.castable "[B" "java/lang/Cloneable") U ∧ ∀ y ∈ jPrv, va_Nw (.selects "java/lang/StringBuilder" y y) U) ∧
  (∀ (i : Nat) (q : String × Nat × String), jCs[i]? = some q → vk_R q.1 q.2.1 q.2.2 (gK G i) U) ∧
  (∀ E ∈ jExs, va_Nw (.castable E E) U ∧ ∀ E' ∈ jExs, E ≠ E' → va_Nc E E' U) ∧
  (∀ C ∈ [RX5, RX6, RX1, RX4, RX8], va_AO C U) ∧
  (∀ q ∈ jNests, va_Nw (.methodLinkNest q.1 q.2.1 q.2.2.1 q.2.2.2) U) ∧
  (∀ q ∈ jDec, va_Nw (.declares q) U)
theorem jSt.kept {G : jG} {a : Nat} {o : jO} {H H1 : Heap} (h : jSt G a o H) (hq : H1[a]? = H[a]?) : jSt G a o H1 := by
  match o, h with
  | .inl (ty, n, f), h => exact ⟨h.1, hq.trans h.2⟩
  | .inr (ci, fs), ⟨r, h1, h2, h3⟩ => exact ⟨r, h1, h2, h3.kept hq⟩
theorem jWk.kept {U : State} {G : jG} {a : Nat} {o : jO} {H H1 : Heap} (h : jWk U G a o H) (hq : H1[a]? = H[a]?) : jWk U G a o H1 := by
  match o, h with
  | .inl (ty, n, f), ⟨ce, h1, h2⟩ => exact ⟨ce, hq.trans h1, h2⟩
  | .inr (ci, fs), ⟨r, ce, h1, h2, h3⟩ => exact ⟨r, ce, h1, hq.trans h2, h3⟩
theorem jWk.moved {u U : State} {G : jG} {a : Nat} {o : jO} {H : Heap} (hvm : u.vm.Alike U.vm) (h : jWk u G a o H) : jWk U G a o H := by
  match o, h with
  | .inl (ty, n, f), ⟨ce, h1, h2, h3⟩ => exact ⟨ce, h1, State.isArrayOf_alike hvm h2, h3⟩
  | .inr (ci, fs), h => exact h
theorem jAt.kept {U : State} {G : jG} {a : Nat} {o : jO} {H H1 : Heap} (h : jAt U G a o H) (hq : H1[a]? = H[a]?) : jAt U G a o H1 := h.elim (fun h => Or.inl ⟨h.1, h.2.kept hq⟩) (fun h => Or.inr ⟨h.1, h.2.kept hq⟩)
theorem jAt.moved {u U : State} {G : jG} {a : Nat} {o : jO} {H : Heap} (hvm : u.vm.Alike U.vm) (h : jAt u G a o H) : jAt U G a o H := h.elim (fun h => Or.inl h) (fun h => Or.inr ⟨h.1, h.2.moved hvm⟩)
theorem jSt.lt {G : jG} {a : Nat} {o : jO} {H : Heap} (h : jSt G a o H) : a < H.size := by
  match o, h with
  | .inl (ty, n, f), h => exact (Array.getElem?_eq_some_iff.mp h.2).1
  | .inr (ci, fs), ⟨r, _, _, ce, h2, _⟩ => exact (Array.getElem?_eq_some_iff.mp h2).1
theorem jWk.lt {U : State} {G : jG} {a : Nat} {o : jO} {H : Heap} (h : jWk U G a o H) : a < H.size := by
  match o, h with
  | .inl (ty, n, f), ⟨ce, h1, _⟩ => exact (Array.getElem?_eq_some_iff.mp h1).1
  | .inr (ci, fs), ⟨r, ce, _, h2, _⟩ => exact (Array.getElem?_eq_some_iff.mp h2).1
theorem jAt.lt {U : State} {G : jG} {a : Nat} {o : jO} {H : Heap} (h : jAt U G a o H) : a < H.size := h.elim (fun h => h.2.lt) (fun h => h.2.lt)
theorem jRel.lt {G : jG} {M : jM} {U : State} {H : Heap} (h : jRel G M U H) {a : Nat} {o : jO} (ha : M.1 a = some o) : a < M.2 := by rw [← h.1]; exact (h.2 a o ha).lt
theorem jRel.moved {u U : State} {G : jG} {M : jM} {H : Heap} (hvm : u.vm.Alike U.vm) (h : jRel G M u H) : jRel G M U H := ⟨h.1, fun a o ha => (h.2 a o ha).moved hvm⟩
/-- the weak view of any object -/
theorem jAt.wk {U : State} {G : jG} {a : Nat} {o : jO} {H H' : Heap} (hm : jAmb G U H') (h : jAt U G a o H) : jWk U G a o H := by
  rcases h with ⟨-, h⟩ | ⟨-, h⟩
  · match o, h with
    | .inl (ty, n, f), ⟨h1, h2⟩ =>
      exact ⟨_, h2, (hm.2.1 ty h1).1 n f, (fun h => by cases h), Nat.le_of_eq (arrV_size _ _ _).symm, by rw [arrV_size] <;> rfl, fun j hj => arrV_read _ _ hj⟩
    | .inr (ci, fs), ⟨r, h1, h2, ce, g1, g2, g3, g4⟩ =>
      refine ⟨r, ce, h1, g1, g2, by rw [g3]; rfl, by rw [g3]; exact (fun h => by cases h), fun k v hk hv => ?_⟩
      rw [g4 k hk]
      simp [vp_V, hv]
  · exact h
theorem jAmb.kept {G : jG} {s U : State} {H H1 : Heap} (hW : s.WarmedH U.vm) (hz : H.size ≤ H1.size) (hq : ∀ a : Nat, a < H.size → ¬ jA G a → H1[a]? = H[a]?) (h : jAmb G s H) : jAmb G U H1 := by
  obtain ⟨h1, h2, h3, ⟨h4, h5⟩, h6, h7, h8, h9, h10, h11⟩ := h
  refine ⟨fun c q hc => u_Kn_moved hW.alike (h1 c q hc), fun ty ht => ⟨arrOfT_moved hW.alike (h2 ty ht).1, (h2 ty ht).2.moved hW.alike⟩, Nat.le_trans h3 hz, ⟨vx_Zq.moved hW.alike (h4.kept hq), vx_Zq.moved hW.alike (h5.kept hq)⟩, ⟨va_Z.moved hW.alike (h6.1.kept hq), va_Zq.moved hW.alike (h6.2.1.kept hq), va_Nw.warmC hW h6.2.2.1, fun y hy => word_at hW (Or.inl rfl) (h6.2.2.2 y hy)⟩, fun i q hi => (h7 i q hi).warm hW, fun E hE => ⟨va_Nw.warmC hW (h8 E hE).1, fun E' hE' hne => va_Nc.moved hW.alike ((h8 E hE).2 E' hE' hne)⟩, fun C hC => va_AO.moved hW.alike (h9 C hC), fun q hq => va_Nw.warmM hW (h10 q hq), fun q hq => va_Nw.warmD hW (h11 q hq)⟩
theorem jBad_of {G : jG} {s : State} {H : Heap} {args : Array Value} {E : String} (hA : jAmb G s H) (hE : E ∈ jExs) : ∀ w ∈ jBad E, w.before args s = true := by
  intro w hw
  rcases List.mem_cons.mp hw with rfl | hw
  · exact va_Nw.use rfl (hA.2.2.2.2.2.2.1 E hE).1
  · obtain ⟨q, hq, rfl⟩ := List.mem_map.mp hw
    exact va_Nw.use rfl (hA.2.2.2.2.2.2.2.2.2 q hq)
def jRm (d kc ks : Nat) : Room := { frames := d, cells := kc, slots := ks, locals := 46 * d }
def jQc (G : jG) (Q : Option Value → jM → Prop) : Array Value → State → Outcome → State → Prop := fun _ st o t => ∃ v M', o = .returned v ∧ Q v M' ∧ jRel G M' t t.heap ∧ va_F (jA G) st t
def jXc (G : jG) (X : String → jM → Prop) : String → State → State → Prop := fun E st t => ∃ M', X E M' ∧ jRel G M' t t.heap ∧ va_F (jA G) st t
/-- A METHOD'S CONTRACT: from the abstract heap M with these arguments it returns v with a heap M' of which Q speaks, or throws an E with X; it makes at most kc objects of ks places, and calls at most d deep -/
def JMet (G : jG) (y : jY) (args : List Value) (M : jM) (kc ks d : Nat) (Q : Option Value → jM → Prop) (X : String → jM → Prop) : Prop :=
  vx_Met (gL G) y.1 (jW y) (jRm d kc ks) (va_Pc args (fun U => jAmb G U U.heap ∧ jRel G M U U.heap)) (jQc G Q) (jXc G X) kc ks (jA G)
abbrev jC : Type := Program × Env × Room × State × MethodId × Array Value × List Frame × Method × Code × (State → Prop) × jG
def jCG (C : jC) : jG := C.2.2.2.2.2.2.2.2.2.2
/-- the locals: a place each, none: nothing is known of it -/
def jl : Nat → List (Option Value) → List (Nat × Value)
  | _, [] => []
  | i, none :: t => jl (i + 1) t
  | i, some v :: t => (i, v) :: jl (i + 1) t
def J (C : jC) (M : jM) (kc ks pc : Nat) (l : List (Option Value)) (st : List Value) : Prop := match C with
  | (p, e, R, s, m, args, below, meth, c, Q, G) => ∀ (H : Heap) (locs : List Loc) (cells slots : Nat) (ls : Array Slot), jRel G M s H → va_S (jA G) s.heap H locs → lv_has ls c.maxLocals (jl 0 l) → cells + kc ≤ R.cells → slots + ks ≤ R.slots → W p (gL G) e R s m args below meth c H locs cells slots Q (F0 m pc ls st)
/-- an E thrown over the frame at pc -/
def JX (C : jC) (M : jM) (kc ks pc : Nat) (l : List (Option Value)) (E : String) : Prop := match C with
  | (p, e, R, s, m, args, below, meth, c, Q, G) => ∀ (H : Heap) (locs : List Loc) (cells slots : Nat) (ls : Array Slot) (rest : List Value) (q : Addr) (ce : Cell), jRel G M s H → va_S (jA G) s.heap H locs → lv_has ls c.maxLocals (jl 0 l) → cells + kc ≤ R.cells → slots + ks ≤ R.slots → H[q]? = some ce → ce.vm = .none → s.vm.findClass E = some ce.cls → vx_W p (gL G) e R s m args below meth c H locs cells slots Q (F0 m pc ls rest) q
def jOK0 (y : jY) (d : Nat) (C : jC) : Prop := match C with
  | (p, _, R, s, m, args, _, meth, c, _, G) => p.tables.exec = Jvm.exec ∧ c.code = y.2.1 ∧ meth.sig.returnType = y.2.2.2.1 ∧ c.maxLocals = y.2.2.1 ∧ s.vm.findClass y.1.cls = some m.cls ∧ (∀ w ∈ jWs, w.before args s = true) ∧ meth.locks = false ∧ meth.name = y.1.name ∧ c.exceptionTable.toList = tableOf y.2.2.2.2 ∧ d ≤ R.frames ∧ 46 * d ≤ R.locals ∧ (gL G).stackTraces = false ∧ jAmb G s s.heap
def jOK (y : jY) (d : Nat) (C : jC) (Q : Option Value → jM → Prop) (X : String → jM → Prop) : Prop := jOK0 y d C ∧ match C with
  | (_, _, R, s, _, args, below, _, _, Qs, G) => Qs = vx_MQ below (jQc G Q) (jXc G X) args s R.cells R.slots (jA G)
theorem jl_mem : ∀ (l : List (Option Value)) (i : Nat) (q : Nat × Value), q ∈ jl i l ↔ ∃ k, l[k]? = some (some q.2) ∧ q.1 = i + k
  | [], i, q => by simp [jl]
  | none :: t, i, q => by
    simp only [jl]
    rw [jl_mem t (i + 1) q]
    constructor
    · rintro ⟨k, h1, h2⟩
      exact ⟨k + 1, by simpa using h1, by omega⟩
    · rintro ⟨k, h1, h2⟩
      cases k with
      | zero => simp at h1
      | succ k => exact ⟨k, by simpa using h1, by omega⟩
  | some v :: t, i, q => by
    simp only [jl, List.mem_cons]
    rw [jl_mem t (i + 1) q]
    constructor
    · rintro (rfl | ⟨k, h1, h2⟩)
      · exact ⟨0, by simp, by simp⟩
      · exact ⟨k + 1, by simpa using h1, by omega⟩
    · rintro ⟨k, h1, h2⟩
      cases k with
      | zero =>
        left
        simp at h1 h2
        exact Prod.ext h2 h1.symm
      | succ k => exact Or.inr ⟨k, by simpa using h1, by omega⟩
theorem jl_at {ls : Array Slot} {n : Nat} {l : List (Option Value)} (h : lv_has ls n (jl 0 l)) {i : Nat} {v : Value} (hi : l[i]? = some (some v)) : ls[i]? = some (.val v) := h.2.2 (i, v) ((jl_mem l 0 (i, v)).mpr ⟨i, hi, by simp⟩)
theorem jl_sub {ls : Array Slot} {n : Nat} {lv : List (Nat × Value)} {l : List (Option Value)} (h : lv_has ls n lv) (hs : ∀ (i : Nat) (v : Value), l[i]? = some (some v) → (i, v) ∈ lv) : lv_has ls n (jl 0 l) := ⟨h.1, h.2.1, fun q hq => by
  obtain ⟨k, h1, h2⟩ := (jl_mem l 0 q).mp hq
  have h3 := hs k q.2 h1
  have e : q = (k, q.2) := Prod.ext (by simpa using h2) rfl
  rw [e]
  exact h.2.2 _ h3⟩
def jc1 : Option Value → Bool
  | none => true
  | some v => v.category == 1
theorem jc1_rf (r : Option Nat) : jc1 (some (va_rf r)) = true := by cases r <;> rfl
/-- a store of a value of one place -/
theorem jl_put {ls : Array Slot} {n i : Nat} {v : Value} {l : List (Option Value)} (hc9 : i = 0 ∨ ∃ j, j + 1 = i ∧ jc1 (l.getD j none) = true)
    (h : lv_has ls n ((i, v) :: (jl 0 l).filter (fun q => !(q.1 == i) && !(q.1 + 1 == i && q.2.category == 2)))) : lv_has ls n (jl 0 (l.set i (some v))) := by
  have hc : ∀ j, j + 1 = i → jc1 (l.getD j none) = true := fun j hj => by
    rcases hc9 with h0 | ⟨k, h0, h1⟩
    · omega
    · have e : j = k := by omega
      rw [e]; exact h1
  refine jl_sub h (fun j w hj => ?_)
  by_cases e : j = i
  · subst e
    rw [List.getElem?_set] at hj
    simp only [if_true] at hj
    split at hj
    · simp at hj
      rw [hj]
      exact List.mem_cons_self
    · cases hj
  · rw [List.getElem?_set_ne (Ne.symm e)] at hj
    refine List.mem_cons_of_mem _ (List.mem_filter.mpr ⟨(jl_mem l 0 (j, w)).mpr ⟨j, hj, by simp⟩, ?_⟩)
    simp only [Bool.and_eq_true, Bool.not_eq_true', beq_eq_false_iff_ne, ne_eq, Bool.and_eq_false_iff]
    refine ⟨e, ?_⟩
    by_cases e2 : j + 1 = i
    · right
      have h2 := hc j e2
      rw [List.getD_eq_getElem?_getD, hj] at h2
      simp [jc1] at h2
      intro h3
      rw [h2] at h3
      cases h3
    · exact Or.inl e2
theorem jl_put2 {ls : Array Slot} {n i : Nat} {v : Value} {l : List (Option Value)} (hc9 : i = 0 ∨ ∃ j, j + 1 = i ∧ jc1 (l.getD j none) = true)
    (h : lv_has ls n ((i, v) :: (jl 0 l).filter (fun q => !(q.1 == i) && (!(q.1 == i + 1) && !(q.1 + 1 == i && q.2.category == 2))))) : lv_has ls n (jl 0 ((l.set i (some v)).set (i + 1) none)) := by
  have hc : ∀ j, j + 1 = i → jc1 (l.getD j none) = true := fun j hj => by
    rcases hc9 with h0 | ⟨k, h0, h1⟩
    · omega
    · have e : j = k := by omega
      rw [e]; exact h1
  refine jl_sub h (fun j w hj => ?_)
  by_cases e9 : j = i + 1
  · subst e9
    rw [List.getElem?_set] at hj
    simp only [if_true] at hj
    split at hj
    · simp at hj
    · cases hj
  · rw [List.getElem?_set_ne (Ne.symm e9)] at hj
    by_cases e : j = i
    · subst e
      rw [List.getElem?_set] at hj
      simp only [if_true] at hj
      split at hj
      · simp at hj
        rw [hj]
        exact List.mem_cons_self
      · cases hj
    · rw [List.getElem?_set_ne (Ne.symm e)] at hj
      refine List.mem_cons_of_mem _ (List.mem_filter.mpr ⟨(jl_mem l 0 (j, w)).mpr ⟨j, hj, by simp⟩, ?_⟩)
      simp only [Bool.and_eq_true, Bool.not_eq_true', beq_eq_false_iff_ne, ne_eq, Bool.and_eq_false_iff]
      refine ⟨e, e9, ?_⟩
      by_cases e2 : j + 1 = i
      · right
        have h2 := hc j e2
        rw [List.getD_eq_getElem?_getD, hj] at h2
        simp [jc1] at h2
        intro h3
        rw [h2] at h3
        cases h3
      · exact Or.inl e2
