/-- the address block of the first f fields -/
def adrT (S : aSet) (q : aRec) : Nat → List Nat
  | 0 => []
  | f + 1 => if isLineA S q f = true then (adrT S q f ++ if cntTo (isLineA S q) f = 0 then [] else [47]) ++ q.2.2 f else adrT S q f
theorem adrT_len {S : aSet} {q : aRec} : ∀ f, (adrT S q f).length + (if cntTo (isLineA S q) f = 0 then 0 else 1) = sumTo (fun f => if isLineA S q f = true then (q.2.2 f).length + 1 else 0) f
  | 0 => rfl
  | f + 1 => by
    have ih := adrT_len (S := S) (q := q) f
    by_cases h : isLineA S q f = true
    · have e1 : adrT S q (f + 1) = (adrT S q f ++ if cntTo (isLineA S q) f = 0 then [] else [47]) ++ q.2.2 f := if_pos h
      have e2 : cntTo (isLineA S q) (f + 1) = cntTo (isLineA S q) f + 1 := congrArg (cntTo (isLineA S q) f + ·) (if_pos h)
      have e3 : sumTo (fun f => if isLineA S q f = true then (q.2.2 f).length + 1 else 0) (f + 1) = sumTo (fun f => if isLineA S q f = true then (q.2.2 f).length + 1 else 0) f + ((q.2.2 f).length + 1) := congrArg (sumTo (fun f => if isLineA S q f = true then (q.2.2 f).length + 1 else 0) f + ·) (if_pos h)
      rw [e1, e2, e3, if_neg (Nat.succ_ne_zero _), ← ih, List.length_append, List.length_append]
      by_cases h2 : cntTo (isLineA S q) f = 0
      · rw [if_pos h2, if_pos h2]
        simp only [List.length_nil]
        omega
      · rw [if_neg h2, if_neg h2]
        simp only [List.length_singleton]
        omega
    · have e1 : adrT S q (f + 1) = adrT S q f := if_neg h
      have e2 : cntTo (isLineA S q) (f + 1) = cntTo (isLineA S q) f := congrArg (cntTo (isLineA S q) f + ·) (if_neg h)
      have e3 : sumTo (fun f => if isLineA S q f = true then (q.2.2 f).length + 1 else 0) (f + 1) = sumTo (fun f => if isLineA S q f = true then (q.2.2 f).length + 1 else 0) f := congrArg (sumTo (fun f => if isLineA S q f = true then (q.2.2 f).length + 1 else 0) f + ·) (if_neg h)
      rw [e1, e2, e3]
      exact ih
theorem take_s {t : List Nat} {k : Nat} (h : k < t.length) : t.take k ++ [t.getD k 0] = t.take (k + 1) := by
  rw [List.getD_eq_getElem?_getD, List.getElem?_eq_getElem h, List.take_succ, List.getElem?_eq_getElem h]
  rfl
theorem sumTo_mono {g : Nat → Nat} : ∀ {a b : Nat}, a ≤ b → sumTo g a ≤ sumTo g b
  | a, 0, h => by rw [show a = 0 by omega]; exact Nat.le_refl _
  | a, b + 1, h => by
    by_cases e : a = b + 1
    · rw [e]; exact Nat.le_refl _
    · exact Nat.le_trans (sumTo_mono (by omega : a ≤ b)) (Nat.le_add_right _ _)
