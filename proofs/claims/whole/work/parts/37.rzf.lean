/-! ===== what holds of a reading all along ===== -/
def wfC (x : pCo) : Prop := x.2.1 ≤ 4 ∧ x.2.2 ≤ 99 ∧ (x.2.1 = 0 → x.2.2 ≤ 4) ∧ (x.2.1 = 1 → x.2.2 ≤ 9)
def wfI (L : List Nat) (its : List pIt) (n m : Nat) (op : List Nat) (i : Nat) (x : pIt) : Prop :=
  iKind x ≤ 5 ∧ iPlace x < L.length ∧ (iKind x = 0 → iOne x = pC L (iPlace x)) ∧ (iKind x = 3 → iOne x ≤ 4 ∧ iTwo x ≤ 2) ∧ (iKind x = 4 → iPlace x + 1 ≤ iOne x ∧ iOne x + 1 ≤ iTwo x ∧ iTwo x < L.length) ∧ (iKind x = 5 → iOne x ≤ iTwo x ∧ iTwo x ≤ m) ∧ (iKind x = 5 → i ∉ op → i < iTill x ∧ iTill x ≤ n) ∧ (iKind x ≠ 5 → iTill x = i + 1) ∧ (∀ j, j ∈ iPath x ↔ j < i ∧ iKind (pAtI its j) = 5 ∧ (j ∈ op ∨ i < iTill (pAtI its j))) ∧ (∀ j r, iPath x = j :: r → iPath (pAtI its j) = r) ∧ (iPath x).Pairwise (fun a b => b < a) ∧ (iPath x).length ≤ 4
def wfP (L : List Nat) (its : List pIt) (cos : List pCo) (op : List Nat) : Prop := (∀ i, i < its.length → wfI L its its.length cos.length op i (pAtI its i)) ∧ (∀ j ∈ op, j < its.length ∧ iKind (pAtI its j) = 5) ∧ (∀ j r, op = j :: r → iPath (pAtI its j) = r) ∧ op.Pairwise (fun a b => b < a) ∧ op.length ≤ 4 ∧ ∀ j, j < cos.length → wfC (pAtC cos j)
theorem wf_0 {L : List Nat} : wfP L [] [] [] := ⟨fun i hi => absurd hi (Nat.not_lt_zero i), fun j hj => absurd hj List.not_mem_nil, fun j r h => absurd h (by simp), List.Pairwise.nil, Nat.zero_le _, fun j hj => absurd hj (Nat.not_lt_zero j)⟩
/-- a new item -/
theorem wf_push {L : List Nat} {its : List pIt} {cos cs : List pCo} {op op' : List Nat} {x : pIt} (h : wfP L its cos op) (hop : op' = op ∧ iKind x ≠ 5 ∨ op' = its.length :: op ∧ iKind x = 5 ∧ op.length < 4) (hp : iPath x = op)
    (c1 : iKind x ≤ 5) (c2 : iPlace x < L.length) (c3 : iKind x = 0 → iOne x = pC L (iPlace x)) (c4 : iKind x = 3 → iOne x ≤ 4 ∧ iTwo x ≤ 2) (c5 : iKind x = 4 → iPlace x + 1 ≤ iOne x ∧ iOne x + 1 ≤ iTwo x ∧ iTwo x < L.length) (c6 : iKind x = 5 → iOne x ≤ iTwo x ∧ iTwo x ≤ (cos ++ cs).length) (c8 : iKind x ≠ 5 → iTill x = its.length + 1) (hcs : ∀ j, j < cs.length → wfC (pAtC cs j)) :
    wfP L (its ++ [x]) (cos ++ cs) op' := by
  obtain ⟨w1, w2, w3, w4, w5, w6⟩ := h
  have hlen : (its ++ [x]).length = its.length + 1 := by rw [List.length_append]; rfl
  have hmem : ∀ j, j ≠ its.length → (j ∈ op' ↔ j ∈ op) := by
    intro j hj
    rcases hop with ⟨e, _⟩ | ⟨e, _⟩
    · rw [e]
    · rw [e]
      exact ⟨fun e => (List.mem_cons.mp e).elim (fun e => absurd e hj) id, fun e => List.mem_cons_of_mem _ e⟩
  refine ⟨fun i hi => ?_, fun j hj => ?_, fun j r e => ?_, ?_, ?_, fun j hj => ?_⟩
  · rw [hlen] at hi ⊢
    by_cases e : i < its.length
    · rw [pAtI_app e]
      obtain ⟨a1, a2, a3, a4, a5, a6, a7, a8, a9, a10, a11, a12⟩ := w1 i e
      refine ⟨a1, a2, a3, a4, a5, fun k => ⟨(a6 k).1, ?_⟩, fun k k2 => ?_, a8, fun j => ?_, fun j r k => ?_, a11, a12⟩
      · rw [List.length_append]
        have := (a6 k).2
        omega
      · have := a7 k (fun q => k2 ((hmem i (by omega)).mpr q))
        omega
      · rw [a9 j]
        constructor
        · intro h9
          obtain ⟨b1, b2, b3⟩ := h9
          rw [pAtI_app (by omega), hmem j (by omega)]
          exact ⟨b1, b2, b3⟩
        · intro h9
          obtain ⟨b1, b2, b3⟩ := h9
          rw [pAtI_app (by omega)] at b2 b3
          rw [hmem j (by omega)] at b3
          exact ⟨b1, b2, b3⟩
      · have hj := (a9 j).mp (by rw [k]; exact List.mem_cons_self)
        rw [pAtI_app (by omega)]
        exact a10 j r k
    · obtain rfl : i = its.length := by omega
      rw [pAtI_new]
      refine ⟨c1, c2, c3, c4, c5, c6, fun k k2 => ?_, c8, fun j => ?_, fun j r k => ?_, by rw [hp]; exact w4, by rw [hp]; exact w5⟩
      · rcases hop with ⟨_, q⟩ | ⟨q, _⟩
        · exact absurd k q
        · rw [q] at k2
          exact absurd List.mem_cons_self k2
      · rw [hp]
        constructor
        · intro hj
          have b := w2 j hj
          rw [pAtI_app b.1]
          exact ⟨b.1, b.2, Or.inl ((hmem j (by omega)).mpr hj)⟩
        · intro h9
          obtain ⟨b1, b2, b3⟩ := h9
          rw [pAtI_app b1] at b2 b3
          rw [hmem j (by omega)] at b3
          by_cases q : j ∈ op
          · exact q
          · have b4 := ((w1 j b1).2.2.2.2.2.2.1 b2 q).2
            exact b3.elim id (fun b => by omega)
      · rw [hp] at k
        have b := w2 j (by rw [k]; exact List.mem_cons_self)
        rw [pAtI_app b.1]
        exact w3 j r k
  · rw [hlen]
    by_cases e : j = its.length
    · subst e
      rw [pAtI_new]
      rcases hop with ⟨q, _⟩ | ⟨_, q, _⟩
      · rw [q] at hj
        exact absurd (w2 _ hj).1 (by omega)
      · exact ⟨by omega, q⟩
    · have b := w2 j ((hmem j e).mp hj)
      rw [pAtI_app b.1]
      exact ⟨by omega, b.2⟩
  · rcases hop with ⟨q, _⟩ | ⟨q, _⟩
    · rw [q] at e
      have b := w2 j (by rw [e]; exact List.mem_cons_self)
      rw [pAtI_app b.1]
      exact w3 j r e
    · rw [q] at e
      injection e with e1 e2
      subst e1; subst e2
      rw [pAtI_new]
      exact hp
  · rcases hop with ⟨q, _⟩ | ⟨q, _⟩
    · rw [q]; exact w4
    · rw [q]
      exact List.Pairwise.cons (fun j hj => (w2 j hj).1) w4
  · rcases hop with ⟨q, _⟩ | ⟨q, _, q2⟩
    · rw [q]; exact w5
    · rw [q, List.length_cons]; omega
  · rw [List.length_append] at hj
    by_cases e : j < cos.length
    · rw [pAtC_app e]
      exact w6 j e
    · obtain ⟨i, rfl⟩ : ∃ i, j = cos.length + i := ⟨j - cos.length, by omega⟩
      rw [pAtC_app2]
      exact hcs i (by omega)
/-- the innermost bracket ends -/
theorem wf_close {L : List Nat} {its : List pIt} {cos : List pCo} {i0 : Nat} {op : List Nat} (h : wfP L its cos (i0 :: op)) : wfP L (setTill its i0 its.length) cos op := by
  obtain ⟨w1, w2, w3, w4, w5, w6⟩ := h
  have hi0 := w2 i0 List.mem_cons_self
  have hnot : i0 ∉ op := fun e => absurd ((List.pairwise_cons.mp w4).1 i0 e) (by omega)
  have hlen : (setTill its i0 its.length).length = its.length := setTill_len
  have hk : ∀ j, iKind (pAtI (setTill its i0 its.length) j) = iKind (pAtI its j) := by
    intro j
    by_cases e : j = i0
    · subst e; rw [setTill_eq hi0.1]
    · rw [setTill_ne e]
  have hpa : ∀ j, iPath (pAtI (setTill its i0 its.length) j) = iPath (pAtI its j) := by
    intro j
    by_cases e : j = i0
    · subst e; rw [setTill_eq hi0.1]
    · rw [setTill_ne e]
  refine ⟨fun i hi => ?_, fun j hj => ?_, fun j r e => ?_, (List.pairwise_cons.mp w4).2, ?_, w6⟩
  · rw [hlen] at hi ⊢
    obtain ⟨a1, a2, a3, a4, a5, a6, a7, a8, a9, a10, a11, a12⟩ := w1 i hi
    have a9' : ∀ j, j ∈ iPath (pAtI its i) ↔ j < i ∧ iKind (pAtI (setTill its i0 its.length) j) = 5 ∧ (j ∈ op ∨ i < iTill (pAtI (setTill its i0 its.length) j)) := by
      intro j
      rw [a9 j, hk]
      refine and_congr Iff.rfl (and_congr Iff.rfl ?_)
      by_cases e : j = i0
      · subst e
        rw [setTill_eq hi0.1]
        exact ⟨fun _ => Or.inr hi, fun _ => Or.inl List.mem_cons_self⟩
      · rw [setTill_ne e]
        refine or_congr ⟨fun q => (List.mem_cons.mp q).elim (fun q => absurd q e) id, fun q => List.mem_cons_of_mem _ q⟩ Iff.rfl
    have a10' : ∀ j r, iPath (pAtI its i) = j :: r → iPath (pAtI (setTill its i0 its.length) j) = r := fun j r q => (hpa j).trans (a10 j r q)
    by_cases e : i = i0
    · subst e
      rw [setTill_eq hi]
      exact ⟨a1, a2, a3, a4, a5, a6, fun _ _ => ⟨hi, Nat.le_refl _⟩, fun q => absurd hi0.2 q, a9', a10', a11, a12⟩
    · rw [setTill_ne e]
      exact ⟨a1, a2, a3, a4, a5, a6, fun q q2 => a7 q (fun q3 => (List.mem_cons.mp q3).elim e q2), a8, a9', a10', a11, a12⟩
  · rw [hlen, hk]
    exact w2 j (List.mem_cons_of_mem _ hj)
  · rw [hpa]
    have b := w3 i0 op rfl
    have hb := (w1 i0 hi0.1).2.2.2.2.2.2.2.2.2.1 j r
    rw [e] at b
    exact hb b
  · rw [List.length_cons] at w5; omega
