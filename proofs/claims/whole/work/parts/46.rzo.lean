def numT (n : Nat) : List Nat := if 9 < n then [48 + n / 10, 48 + n % 10] else [48 + n % 10]
/-- a piece of the template's text -/
def subT (L : List Nat) (a : Nat) : Nat → List Nat
  | 0 => []
  | k + 1 => subT L a k ++ [pC L (a + k)]
theorem subT_len {L : List Nat} {a : Nat} : ∀ k, (subT L a k).length = k
  | 0 => rfl
  | k + 1 => by
    simp only [subT]
    rw [List.length_append, subT_len k]
    rfl
def wFrom (n : Nat) (x : pIt) : Nat := if n = 1 then iPlace x + 1 else iOne x + 1
def wTill (n : Nat) (x : pIt) : Nat := if n = 1 then iOne x else iTwo x
/-- what an item that is no bracket gives; none: a field is missing -/
def gvT (S : aSet) (q : aRec) (L : List Nat) (x : pIt) : Option (List Nat) :=
  if iKind x = 0 then some [iOne x]
  else if iKind x = 1 then some (numT q.2.1)
  else if iKind x = 2 then (if linesA S q = 0 then none else some (adrT S q 5))
  else if iKind x = 3 then (if (q.2.2 (iOne x)).length = 0 then none else some (styT (iTwo x) (q.2.2 (iOne x)) (q.2.2 (iOne x)).length))
  else some (subT L (wFrom q.2.1 x) (wTill q.2.1 x - wFrom q.2.1 x))
/-- why it fails (0: it does not), and the letter behind it -/
def gvC (S : aSet) (l : List Nat) : Option (List Nat) → Nat × List Nat
  | none => (3, l)
  | some t => if l.length + t.length ≤ sLim S then (0, l ++ t) else (4, l)
section GV
variable {S : aSet} {l t : List Nat} {o : Option (List Nat)}
theorem gv_3 (h : o = none) : gvC S l o = (3, l) := by subst h; rfl
theorem gv_4 (h : o = some t) (h2 : ¬ l.length + t.length ≤ sLim S) : gvC S l o = (4, l) := by subst h; exact if_neg h2
theorem gv_0 (h : o = some t) (h2 : l.length + t.length ≤ sLim S) : gvC S l o = (0, l ++ t) := by subst h; exact if_pos h2
end GV
