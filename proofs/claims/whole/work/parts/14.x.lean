/-! ===== THE MEANING of the calls: state, answers ===== -/
/-- a run: for each record its reason, letter, chain -/
abbrev aRun : Type := List (Nat × List Nat × List Nat)
/-- present setup, changes that can be undone (oldest first), snapshot, input, error position, latest run -/
abbrev aSt : Type := aSet × List aSet × Option aSet × List Nat × Option Nat × Option aRun
abbrev tSet (T : aSt) : aSet := T.1
abbrev tPast (T : aSt) : List aSet := T.2.1
abbrev tSave (T : aSt) : Option aSet := T.2.2.1
abbrev tBuf (T : aSt) : List Nat := T.2.2.2.1
abbrev tErr (T : aSt) : Option Nat := T.2.2.2.2.1
abbrev tRun (T : aSt) : Option aRun := T.2.2.2.2.2
def set0 : aSet := ([], 0, 0, 0, 100, [], [])
def st0 : aSt := (set0, [], none, [], none, none)
def keepP (P : List aSet) (S : aSet) : List aSet := (if P.length = 8 then P.tail else P) ++ [S]
/-- the state behind a change to S -/
def chg (T : aSt) (S : aSet) : aSt := (S, keepP (tPast T) (tSet T), T.2.2)
def setBuf (T : aSt) (b : List Nat) : aSt := (T.1, T.2.1, T.2.2.1, b, T.2.2.2.2)
def setErr (T : aSt) (k : Nat) : aSt := (T.1, T.2.1, T.2.2.1, T.2.2.2.1, some k, T.2.2.2.2.2)
def withRecs (S : aSet) (L : List aRec) : aSet := (L, S.2)
def toN (x : Int32) : Nat := x.toNatClampNeg
/-- an answer: what is thrown (0: nothing), the number, the state behind -/
abbrev aAns : Type := Nat × Int32 × aSt
def opClear (T : aSt) : aAns := (0, nI (sRecs (tSet T)).length, (set0, [], T.2.2))
def byteN (p : Int32) (k : Nat) : Nat := p.toBitVec.toNat / 2 ^ (8 * k) % 256
def bytesN (p : Int32) : List Nat := [byteN p 3, byteN p 2, byteN p 1, byteN p 0]
def isCh (c : Nat) : Bool := decide (32 ≤ c ∧ c ≤ 126)
def opAppend (p : Int32) (T : aSt) : aAns :=
  if ((bytesN p).filter (fun b => b ≠ 0)).all isCh then
    if (tBuf T).length + ((bytesN p).filter (fun b => b ≠ 0)).length ≤ 120 then (0, nI ((tBuf T).length + ((bytesN p).filter (fun b => b ≠ 0)).length), setBuf T (tBuf T ++ (bytesN p).filter (fun b => b ≠ 0)))
    else (2, 0, T)
  else (1, 0, T)
def opAdd (g c : Int32) (T : aSt) : aAns :=
  if jin g 10 = true ∧ jin c 100 = true then
    if (sRecs (tSet T)).length = 20 then (2, 0, T)
    else (0, nI (sRecs (tSet T)).length, chg T (withRecs (tSet T) (sRecs (tSet T) ++ [(toN g, toN c, fun _ => [])])))
  else (1, 0, T)
def opRemove (r : Int32) (T : aSt) : aAns :=
  if jin r (sRecs (tSet T)).length = true then (0, nI ((sRecs (tSet T)).length - 1), chg T (withRecs (tSet T) ((sRecs (tSet T)).eraseIdx (toN r))))
  else (1, 0, T)
def moveL {α : Type} (L : List α) (a b : Nat) : List α := match L[a]? with
  | none => L
  | some x => (L.eraseIdx a).insertIdx b x
def opMove (r t : Int32) (T : aSt) : aAns :=
  if jin r (sRecs (tSet T)).length = true ∧ jin t (sRecs (tSet T)).length = true then
    (0, if toN r = toN t then 0 else if toN r < toN t then nI (toN t - toN r + 1) else nI (toN r - toN t + 1), chg T (withRecs (tSet T) (moveL (sRecs (tSet T)) (toN r) (toN t))))
  else (1, 0, T)
def cap (c : Nat) : Nat := if 97 ≤ c ∧ c ≤ 122 then c - 32 else c
def cmpT : List Nat → List Nat → Int
  | [], b => -(b.length : Int)
  | x :: a, [] => (a.length : Int) + 1
  | x :: a, y :: b => if cap x = cap y then cmpT a b else (cap x : Int) - cap y
def sameT (a b : List Nat) : Bool := decide (a.map cap = b.map cap)
def ahead (desc : Bool) (t u : List Nat) : Bool :=
  if t.length = 0 ∨ u.length = 0 then decide (0 < t.length) else if desc then decide (0 < cmpT t u) else decide (cmpT t u < 0)
/-- where x goes into an order, looked for from place p on to the left -/
def insP (lt : Nat → Nat → Bool) (x : Nat) (o : List Nat) : Nat → Nat
  | 0 => 0
  | p + 1 => if lt x (o.getD p 0) = true then insP lt x o p else p + 1
/-- the order of the first n -/
def ordL (lt : Nat → Nat → Bool) : Nat → List Nat
  | 0 => []
  | n + 1 => (ordL lt n).insertIdx (insP lt n (ordL lt n) n) n
def ltA (S : aSet) (f : Nat) (desc : Bool) (r q : Nat) : Bool := ahead desc ((sAt S r).2.2 f) ((sAt S q).2.2 f)
def ordA (S : aSet) (f : Nat) (desc : Bool) : List Nat := ordL (ltA S f desc) (sRecs S).length
def cntTo (p : Nat → Bool) : Nat → Nat
  | 0 => 0
  | n + 1 => cntTo p n + if p n = true then 1 else 0
def movedN (o : List Nat) : Nat := cntTo (fun i => decide (¬ o.getD i 0 = i)) o.length
def opSort (f : Int32) (desc : Bool) (T : aSt) : aAns :=
  if jin f 5 = true then (0, nI (movedN (ordA (tSet T) (toN f) desc)), chg T (withRecs (tSet T) ((ordA (tSet T) (toN f) desc).map (sAt (tSet T)))))
  else (1, 0, T)
/-- where a text is no field -/
def wrongA (t : List Nat) : Option Nat := (List.range t.length).find? (fun k => decide (k = 12 ∨ t.getD k 0 = 47))
def setFld (q : aRec) (f : Nat) (t : List Nat) : aRec := (q.1, q.2.1, fun g => if g = f then t else q.2.2 g)
def setRec (S : aSet) (r : Nat) (q : aRec) : aSet := withRecs S ((sRecs S).set r q)
def opSetFld (r f : Int32) (T : aSt) : aAns :=
  if jin r (sRecs (tSet T)).length = true ∧ jin f 5 = true then
    match wrongA (tBuf T) with
    | some k => (2, 0, setErr (setBuf T []) k)
    | none => (0, nI ((sAt (tSet T) (toN r)).2.2 (toN f)).length, chg (setBuf T []) (setRec (tSet T) (toN r) (setFld (sAt (tSet T) (toN r)) (toN f) (tBuf T))))
  else (1, 0, T)
def opNumber (r : Int32) (isC : Bool) (v : Int32) (T : aSt) : aAns :=
  if jin r (sRecs (tSet T)).length = true then
    if jin v (if isC then 100 else 10) = true then
      (0, nI (if isC then (sAt (tSet T) (toN r)).2.1 else (sAt (tSet T) (toN r)).1), chg T (setRec (tSet T) (toN r) (if isC then ((sAt (tSet T) (toN r)).1, toN v, (sAt (tSet T) (toN r)).2.2) else (toN v, (sAt (tSet T) (toN r)).2))))
    else (2, 0, T)
  else (1, 0, T)
def opFieldAt (r f i : Int32) (T : aSt) : aAns :=
  if jin r (sRecs (tSet T)).length = true ∧ jin f 5 = true then
    if i = -1 then (0, nI ((sAt (tSet T) (toN r)).2.2 (toN f)).length, T)
    else if jin i ((sAt (tSet T) (toN r)).2.2 (toN f)).length = true then (0, nI (((sAt (tSet T) (toN r)).2.2 (toN f)).getD (toN i) 0), T)
    else (2, 0, T)
  else (1, 0, T)
def isHomeA (S : aSet) (q : aRec) : Bool := decide (0 < (sHome S).length) && sameT (q.2.2 4) (sHome S)
def isLineA (S : aSet) (q : aRec) (f : Nat) : Bool := decide (0 < (q.2.2 f).length) && !(decide (f = 4) && isHomeA S q)
def sumTo (g : Nat → Nat) : Nat → Nat
  | 0 => 0
  | n + 1 => sumTo g n + g n
def linesA (S : aSet) (q : aRec) : Nat := cntTo (isLineA S q) 5
/-- the letters of the address block and a stroke behind each line -/
def addrA (S : aSet) (q : aRec) : Nat := sumTo (fun f => if isLineA S q f = true then (q.2.2 f).length + 1 else 0) 5
def maskA (q : aRec) : Nat := sumTo (fun f => if 0 < (q.2.2 f).length then 2 ^ f else 0) 5
def opRecord (r w : Int32) (T : aSt) : aAns :=
  if jin r (sRecs (tSet T)).length = true then
    if jin w 4 = true then
      (0, if toN w = 0 then nI (sAt (tSet T) (toN r)).1 else if toN w = 1 then nI (sAt (tSet T) (toN r)).2.1 else if toN w = 2 then nI (maskA (sAt (tSet T) (toN r))) else nI (linesA (tSet T) (sAt (tSet T) (toN r))), T)
    else (2, 0, T)
  else (1, 0, T)
def likeA (S : aSet) (r q : Nat) : Nat → Bool
  | 0 => decide (¬ sKeys S = 0 ∨ r = q)
  | f + 1 => likeA S r q f && (!((sKeys S).testBit f) || sameT ((sAt S r).2.2 f) ((sAt S q).2.2 f))
def optZ : Option Nat → Int
  | none => -1
  | some k => k
def outA (S : aSet) (q : aRec) : Bool := (sOut S).testBit q.1
def keptS (S : aSet) (r pol : Nat) (b : Option Nat) (q : Nat) : Option Nat :=
  if outA S (sAt S q) = true ∨ ¬ likeA S r q 5 = true then b else
  match b with
  | none => some q
  | some k => if pol = 1 ∨ pol = 2 ∧ (sAt S k).2.1 < (sAt S q).2.1 then some q else some k
/-- which one is kept, of the first k in the order gone through -/
def keptTo (S : aSet) (r pol : Nat) (back : Bool) : Nat → Option Nat
  | 0 => none
  | k + 1 => keptS S r pol (keptTo S r pol back k) (if back = true then (sRecs S).length - 1 - k else k)
def keptA (S : aSet) (r pol : Nat) (back : Bool) : Option Nat := keptTo S r pol back (sRecs S).length
def opErrPos (T : aSt) : aAns := match tErr T with
  | none => (1, 0, T)
  | some k => (0, nI k, T)
