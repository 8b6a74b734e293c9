/-! ===== THE MEANING of a template: reading it ===== -/
/-- a place, and whether all is well so far -/
abbrev pS : Type := Nat × Bool
def pC (L : List Nat) (i : Nat) : Nat := L.getD i 0
def pNx (L : List Nat) (c : Nat) (σ : pS) : Bool := σ.2 && decide (pC L σ.1 = c)
def pNext (L : List Nat) (c : Nat) (σ : pS) : pS := if pNx L c σ = true then (σ.1 + 1, true) else σ
def pWant (L : List Nat) (c : Nat) (σ : pS) : pS := if σ.2 = true then (if pC L σ.1 = c then (σ.1 + 1, true) else (σ.1, false)) else σ
def pDv (L : List Nat) (most : Nat) (σ : pS) : Nat := if σ.2 = true ∧ 48 ≤ pC L σ.1 ∧ pC L σ.1 ≤ 48 + most then pC L σ.1 - 48 else 0
def pDig (L : List Nat) (most : Nat) (σ : pS) : pS := if σ.2 = true then (if 48 ≤ pC L σ.1 ∧ pC L σ.1 ≤ 48 + most then (σ.1 + 1, true) else (σ.1, false)) else σ
def isLit (c : Nat) : Bool := decide (32 ≤ c ∧ c ≤ 126 ∧ c ≠ 35 ∧ c ≠ 64 ∧ c ≠ 123 ∧ c ≠ 125 ∧ c ≠ 60 ∧ c ≠ 62 ∧ c ≠ 124 ∧ c ≠ 91 ∧ c ≠ 93 ∧ c ≠ 47)
/-- a condition: the other way, kind, number -/
abbrev pCo : Type := Bool × Nat × Nat
def pCondK (L : List Nat) (σ : pS) : Nat := if pNx L 103 σ = true then 1 else if pNx L 110 σ = true then (if pC L (σ.1 + 1) = 60 then 2 else if pC L (σ.1 + 1) = 61 then 3 else 4) else 0
/-- the sign of a kind -/
def pSig (k : Nat) : Nat := if k = 2 then 60 else if k = 3 then 61 else 62
def pNumV (L : List Nat) (σ : pS) : Nat := if (pDig L 9 σ).2 = true ∧ pDv L 9 σ ≠ 0 ∧ (48 ≤ pC L (pDig L 9 σ).1 ∧ pC L (pDig L 9 σ).1 ≤ 57) then 10 * pDv L 9 σ + pDv L 9 (pDig L 9 σ) else pDv L 9 σ
def pNum (L : List Nat) (σ : pS) : pS := if (pDig L 9 σ).2 = true ∧ pDv L 9 σ ≠ 0 ∧ (48 ≤ pC L (pDig L 9 σ).1 ∧ pC L (pDig L 9 σ).1 ≤ 57) then pDig L 9 (pDig L 9 σ) else pDig L 9 σ
/-- behind the exclamation mark: the number, and where it ends -/
def pCond1V (L : List Nat) (σ : pS) : Nat := if pNx L 103 σ = true then pDv L 9 (pNext L 103 σ) else if pNx L 110 σ = true then pNumV L (pWant L (pSig (pCondK L σ)) (pNext L 110 σ)) else pDv L 4 σ
def pCond1 (L : List Nat) (σ : pS) : pS := if pNx L 103 σ = true then pDig L 9 (pNext L 103 σ) else if pNx L 110 σ = true then pNum L (pWant L (pSig (pCondK L σ)) (pNext L 110 σ)) else pDig L 4 σ
def pCond (L : List Nat) (σ : pS) : pS := pCond1 L (pNext L 33 σ)
def pCondC (L : List Nat) (σ : pS) : pCo := (pNx L 33 σ, pCondK L (pNext L 33 σ), pCond1V L (pNext L 33 σ))
/-- the further conditions, and where they end -/
def pMore (L : List Nat) : Nat → pS → List pCo × pS
  | 0, σ => ([], σ)
  | f + 1, σ => if pNx L 38 σ = true then (pCondC L (pNext L 38 σ) :: (pMore L f (pCond L (pNext L 38 σ))).1, (pMore L f (pCond L (pNext L 38 σ))).2) else ([], σ)
/-- where the literals from place i on end -/
def pLit (L : List Nat) : Nat → Nat → Nat
  | 0, i => i
  | f + 1, i => if isLit (pC L i) = true then pLit L f (i + 1) else i
/-- an item: kind, place, the brackets it is in (innermost first), two numbers, where its inside ends -/
abbrev pIt : Type := Nat × Nat × List Nat × Nat × Nat × Nat
def it0 : pIt := (0, 0, [], 0, 0, 0)
abbrev iKind (x : pIt) : Nat := x.1
abbrev iPlace (x : pIt) : Nat := x.2.1
abbrev iPath (x : pIt) : List Nat := x.2.2.1
abbrev iOne (x : pIt) : Nat := x.2.2.2.1
abbrev iTwo (x : pIt) : Nat := x.2.2.2.2.1
abbrev iTill (x : pIt) : Nat := x.2.2.2.2.2
/-- a reading: place and well; items; conditions; open brackets; deepest -/
abbrev pP : Type := pS × List pIt × List pCo × List Nat × Nat
abbrev pσ (P : pP) : pS := P.1
abbrev pIts (P : pP) : List pIt := P.2.1
abbrev pCos (P : pP) : List pCo := P.2.2.1
abbrev pOp (P : pP) : List Nat := P.2.2.2.1
abbrev pDeep (P : pP) : Nat := P.2.2.2.2
def pAtI (X : List pIt) (i : Nat) : pIt := X.getD i it0
def pAtC (X : List pCo) (i : Nat) : pCo := X.getD i (false, 0, 0)
def pBad (P : pP) (σ : pS) : pP := (σ, P.2)
/-- the kind of an item that is no bracket -/
def pKind (c : Nat) : Option Nat := if c = 35 then some 1 else if c = 64 then some 2 else if c = 123 then some 3 else if c = 60 then some 4 else if isLit c = true then some 0 else none
/-- an item that is no bracket: its two numbers, where it ends -/
def pEndσ (L : List Nat) (k i : Nat) : pS :=
  if k = 3 then pWant L 125 (if pNx L 94 (pDig L 4 (i + 1, true)) = true then pNext L 94 (pDig L 4 (i + 1, true)) else pNext L 42 (pDig L 4 (i + 1, true)))
  else if k = 4 then pWant L 62 (if (pWant L 124 (pLit L 120 (i + 1), true)).2 = true then (pLit L 120 (pWant L 124 (pLit L 120 (i + 1), true)).1, true) else pWant L 124 (pLit L 120 (i + 1), true))
  else (i + 1, true)
def pOne (L : List Nat) (k i : Nat) : Nat := if k = 0 then pC L i else if k = 3 then pDv L 4 (i + 1, true) else if k = 4 then pLit L 120 (i + 1) else 0
def pTwo (L : List Nat) (k i : Nat) : Nat :=
  if k = 3 then (if pNx L 94 (pDig L 4 (i + 1, true)) = true then 1 else if pNx L 42 (pDig L 4 (i + 1, true)) = true then 2 else 0)
  else if k = 4 then (if (pWant L 124 (pLit L 120 (i + 1), true)).2 = true then pLit L 120 (pWant L 124 (pLit L 120 (i + 1), true)).1 else (pWant L 124 (pLit L 120 (i + 1), true)).1)
  else 0
/-- behind the conditions of a bracket that opens at place i -/
def pOpen (L : List Nat) (i : Nat) : List pCo × pS := (pCondC L (i + 1, true) :: (pMore L 121 (pCond L (i + 1, true))).1, pWant L 58 (pMore L 121 (pCond L (i + 1, true))).2)
def pRuns (L : List Nat) (P : pP) : Bool := (pσ P).2 && !(decide (L.length ≤ (pσ P).1) && decide ((pOp P).length = 0))
def setTill (X : List pIt) (i t : Nat) : List pIt := X.set i ((pAtI X i).1, (pAtI X i).2.1, (pAtI X i).2.2.1, (pAtI X i).2.2.2.1, (pAtI X i).2.2.2.2.1, t)
/-- one step of a reading that is not at its end -/
def pStep1 (L : List Nat) (P : pP) : pP :=
  if pC L (pσ P).1 = 91 then
    if (pOp P).length = 4 then pBad P ((pσ P).1, false)
    else ((pOpen L (pσ P).1).2, pIts P ++ [(5, (pσ P).1, pOp P, (pCos P).length, (pCos P).length + (pOpen L (pσ P).1).1.length, 0)], pCos P ++ (pOpen L (pσ P).1).1, (pIts P).length :: pOp P, max (pDeep P) ((pOp P).length + 1))
  else if pC L (pσ P).1 = 93 then
    match pOp P with
    | [] => pBad P ((pσ P).1, false)
    | i :: s => (((pσ P).1 + 1, true), setTill (pIts P) i (pIts P).length, pCos P, s, pDeep P)
  else match pKind (pC L (pσ P).1) with
    | none => pBad P ((pσ P).1, false)
    | some k => (pEndσ L k (pσ P).1, pIts P ++ [(k, (pσ P).1, pOp P, pOne L k (pσ P).1, pTwo L k (pσ P).1, (pIts P).length + 1)], pCos P, pOp P, pDeep P)
def pStep (L : List Nat) (P : pP) : pP := if pRuns L P = true then pStep1 L P else P
def pIter (L : List Nat) : Nat → pP → pP
  | 0, P => P
  | n + 1, P => pIter L n (pStep L P)
def pP0 : pP := ((0, true), [], [], [], 0)
/-- the reading of a text, at its end -/
def pEnd (L : List Nat) : pP := pIter L 122 pP0
/-- the text is a template -/
def pOK (L : List Nat) : Bool := (pσ (pEnd L)).2
theorem pNext_of {L : List Nat} {c : Nat} {σ : pS} (h : pNx L c σ = true) : pNext L c σ = (σ.1 + 1, true) := if_pos h
theorem pNext_no {L : List Nat} {c : Nat} {σ : pS} (h : ¬ pNx L c σ = true) : pNext L c σ = σ := if_neg h
theorem pNx_iff {L : List Nat} {c : Nat} {σ : pS} : pNx L c σ = true ↔ σ.2 = true ∧ pC L σ.1 = c := by
  rw [pNx, Bool.and_eq_true, decide_eq_true_eq]
theorem pC_out {L : List Nat} {i : Nat} (h : L.length ≤ i) : pC L i = 0 := by
  rw [pC, List.getD_eq_getElem?_getD, List.getElem?_eq_none h]
  rfl
