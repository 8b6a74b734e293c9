/-! ===== the reference at work on a template ===== -/
/-- what reading a template leaves alone -/
def pFr (R R' : rR) : Prop := (∀ k, k ≠ 12 → k ≠ 13 → k ≠ 14 → k ≠ 15 → k ≠ 16 → k ≠ 22 → R'.1 k = R.1 k) ∧ (∀ k, k ≠ 17 → k ≠ 18 → k ≠ 19 → k ≠ 20 → k ≠ 21 → k ≠ 23 → k ≠ 24 → k ≠ 25 → R'.2 k = R.2 k)
theorem pFr_refl {R : rR} : pFr R R := ⟨fun _ _ _ _ _ _ _ => rfl, fun _ _ _ _ _ _ _ _ _ => rfl⟩
theorem pFr_trans {R R' R'' : rR} (h : pFr R R') (h2 : pFr R' R'') : pFr R R'' := ⟨fun k a b c d e f => (h2.1 k a b c d e f).trans (h.1 k a b c d e f), fun k a b c d e f g i => (h2.2 k a b c d e f g i).trans (h.2 k a b c d e f g i)⟩
theorem pFr_rs {R R' : rR} {k : Nat} {v : Int32} (h : pFr R R') (hk : k = 12 ∨ k = 13 ∨ k = 14 ∨ k = 15 ∨ k = 16 ∨ k = 22) : pFr R (rs R' k v) := by
  refine ⟨fun j a b c d e f => ?_, h.2⟩
  show (if j = k then v else R'.1 j) = R.1 j
  rw [if_neg (by omega)]
  exact h.1 j a b c d e f
theorem pFr_ra {R R' : rR} {k i : Nat} {v : Int32} (h : pFr R R') (hk : k = 17 ∨ k = 18 ∨ k = 19 ∨ k = 20 ∨ k = 21 ∨ k = 23 ∨ k = 24 ∨ k = 25) : pFr R (ra R' k i v) := by
  refine ⟨h.1, fun j a b c d e f g i' => ?_⟩
  show (if j = k then upd (R'.2 j) i v else R'.2 j) = R.2 j
  rw [if_neg (by omega)]
  exact h.2 j a b c d e f g i'
theorem pFr_sg {R R' : rR} {σ : pS} (h : pFr R R') : pFr R (sgR R' σ) := pFr_rs (pFr_rs h (by decide)) (by decide)
theorem pFr_co {R R' : rR} {m : Nat} {x : pCo} (h : pFr R R') : pFr R (coR R' m x) := pFr_rs (pFr_ra (pFr_ra (pFr_ra h (by decide)) (by decide)) (by decide)) (by decide)
theorem pFr_ly {R R' : rR} {n k p : Nat} (h : pFr R R') : pFr R (lyR R' n k p) := pFr_rs (pFr_ra (pFr_ra (pFr_ra (pFr_ra h (by decide)) (by decide)) (by decide)) (by decide)) (by decide)
theorem ln_fr {R R' : rR} {L : List Nat} (h : lnR R L) (hf : pFr R R') : lnR R' L := by
  refine ⟨(hf.1 11 (by decide) (by decide) (by decide) (by decide) (by decide) (by decide)).trans h.1, fun i hi => ?_, h.2.2⟩
  rw [hf.2 10 (by decide) (by decide) (by decide) (by decide) (by decide) (by decide) (by decide) (by decide)]
  exact h.2.1 i hi
/-- an item in the rows -/
def itR (R : rR) (i : Nat) (x : pIt) : Prop := R.2 17 i = nI (iKind x) ∧ R.2 18 i = nI (iPlace x) ∧ R.2 19 i = nI (iOne x) ∧ R.2 20 i = nI (iTwo x)
def cdR (R : rR) (j : Nat) (x : pCo) : Prop := R.2 23 j = nI x.2.1 ∧ R.2 24 j = nI x.2.2 ∧ R.2 25 j = jb (x.1 = true)
/-- a reading that is well so far -/
def prW (R : rR) (P : pP) : Prop := R.1 14 = nI (pOp P).length ∧ R.1 15 = nI (pDeep P) ∧ R.1 16 = nI (pIts P).length ∧ R.1 22 = nI (pCos P).length ∧ (∀ i, i < (pIts P).length → itR R i (pAtI (pIts P) i)) ∧ (∀ j, j < (pCos P).length → cdR R j (pAtC (pCos P) j)) ∧ (pIts P).length ≤ (pσ P).1 ∧ (pCos P).length ≤ (pσ P).1 ∧ (pOp P).length ≤ 4 ∧ pDeep P ≤ 4 ∧ (∀ i ∈ pOp P, i < (pIts P).length) ∧ ∀ i, i < (pIts P).length → i ∉ pOp P → R.2 21 i = nI (iTill (pAtI (pIts P) i))
def prR (R : rR) (L : List Nat) (P : pP) : Prop := lnR R L ∧ R.1 12 = nI (pσ P).1 ∧ R.1 13 = zI (pF (pσ P)) ∧ (pσ P).1 ≤ L.length ∧ ((pσ P).2 = true → prW R P)
theorem sg_self {R : rR} {σ : pS} (h12 : R.1 12 = nI σ.1) (h13 : R.1 13 = zI (pF σ)) : R = sgR R σ := by
  refine Prod.ext (funext fun j => ?_) rfl
  show R.1 j = if j = 13 then zI (pF σ) else if j = 12 then nI σ.1 else R.1 j
  by_cases h : j = 13
  · rw [if_pos h, h, h13]
  · rw [if_neg h]
    by_cases h2 : j = 12
    · rw [if_pos h2, h2, h12]
    · rw [if_neg h2]
/-- conditions laid one after another -/
def coLR : rR → Nat → List pCo → rR
  | R, _, [] => R
  | R, m, x :: cs => coLR (coR R m x) (m + 1) cs
theorem coLR_app {x : pCo} : ∀ {cs : List pCo} {R : rR} {m : Nat}, coLR R m (cs ++ [x]) = coR (coLR R m cs) (m + cs.length) x
  | [], R, m => rfl
  | y :: cs, R, m => by
    show coLR (coR R m y) (m + 1) (cs ++ [x]) = coR (coLR (coR R m y) (m + 1) cs) (m + (y :: cs).length) x
    rw [coLR_app, List.length_cons, show m + 1 + cs.length = m + (cs.length + 1) by omega]
theorem coLR_22 : ∀ {cs : List pCo} {R : rR} {m : Nat}, R.1 22 = nI m → (coLR R m cs).1 22 = nI (m + cs.length)
  | [], R, m, h => h
  | y :: cs, R, m, h => by
    show (coLR (coR R m y) (m + 1) cs).1 22 = nI (m + (y :: cs).length)
    rw [coLR_22 (R := coR R m y) (m := m + 1) rfl, List.length_cons, show m + 1 + cs.length = m + (cs.length + 1) by omega]
theorem coLR_1 {k : Nat} (hk : k ≠ 22) : ∀ {cs : List pCo} {R : rR} {m : Nat}, (coLR R m cs).1 k = R.1 k
  | [], R, m => rfl
  | y :: cs, R, m => by
    show (coLR (coR R m y) (m + 1) cs).1 k = R.1 k
    rw [coLR_1 hk]
    exact if_neg hk
theorem coR_2 {R : rR} {m k : Nat} {x : pCo} (h3 : k ≠ 23) (h4 : k ≠ 24) (h5 : k ≠ 25) : (coR R m x).2 k = R.2 k := by
  show (if k = 24 then upd (if k = 23 then _ else _) m _ else if k = 23 then upd (if k = 25 then _ else _) m _ else if k = 25 then _ else R.2 k) = R.2 k
  rw [if_neg h4, if_neg h3, if_neg h5]
theorem coLR_2 {k : Nat} (h3 : k ≠ 23) (h4 : k ≠ 24) (h5 : k ≠ 25) : ∀ {cs : List pCo} {R : rR} {m : Nat}, (coLR R m cs).2 k = R.2 k
  | [], R, m => rfl
  | y :: cs, R, m => by
    show (coLR (coR R m y) (m + 1) cs).2 k = R.2 k
    rw [coLR_2 h3 h4 h5, coR_2 h3 h4 h5]
theorem pFr_coL {R : rR} : ∀ {cs : List pCo} {R' : rR} {m : Nat}, pFr R R' → pFr R (coLR R' m cs)
  | [], R', m, h => h
  | y :: cs, R', m, h => pFr_coL (R' := coR R' m y) (m := m + 1) (pFr_co h)
theorem coR_old {R : rR} {m j : Nat} {x y : pCo} (h : j < m) (hj : cdR R j y) : cdR (coR R m x) j y :=
  ⟨(pk_un (by omega)).trans hj.1, (pk_un (by omega)).trans hj.2.1, (pk_un (by omega)).trans hj.2.2⟩
theorem coR_new {R : rR} {m : Nat} {x : pCo} : cdR (coR R m x) m x := ⟨pk_us, pk_us, pk_us⟩
theorem coLR_old {j : Nat} {y : pCo} : ∀ {cs : List pCo} {R : rR} {m : Nat}, j < m → cdR R j y → cdR (coLR R m cs) j y
  | [], R, m, _, h => h
  | z :: cs, R, m, hj, h => coLR_old (R := coR R m z) (m := m + 1) (by omega) (coR_old hj h)
theorem coLR_new : ∀ {cs : List pCo} {R : rR} {m i : Nat}, i < cs.length → cdR (coLR R m cs) (m + i) (pAtC cs i)
  | [], R, m, i, h => absurd h (Nat.not_lt_zero _)
  | z :: cs, R, m, 0, h => coLR_old (R := coR R m z) (m := m + 1) (by omega) coR_new
  | z :: cs, R, m, i + 1, h => by
    have e := coLR_new (cs := cs) (R := coR R m z) (m := m + 1) (i := i) (by rw [List.length_cons] at h; omega)
    rw [show m + 1 + i = m + (i + 1) by omega] at e
    exact e
/-! places only grow -/
section MO
variable {L : List Nat} {σ : pS} {c n : Nat}
theorem pNext_mo : σ.1 ≤ (pNext L c σ).1 := by unfold pNext; split <;> simp
theorem pWant_mo : σ.1 ≤ (pWant L c σ).1 := by
  unfold pWant
  split
  · split <;> simp
  · exact Nat.le_refl _
theorem pDig_mo : σ.1 ≤ (pDig L n σ).1 := by
  unfold pDig
  split
  · split <;> simp
  · exact Nat.le_refl _
theorem pNum_mo : σ.1 ≤ (pNum L σ).1 := by
  unfold pNum
  split
  · exact Nat.le_trans (pDig_mo (L := L) (n := 9)) pDig_mo
  · exact pDig_mo
theorem pNum_le (h : σ.1 ≤ L.length) : (pNum L σ).1 ≤ L.length := by
  unfold pNum
  split
  · exact pDig_le (pDig_le h)
  · exact pDig_le h
theorem pCond1_mo : σ.1 ≤ (pCond1 L σ).1 := by
  unfold pCond1
  split
  · exact Nat.le_trans (pNext_mo (L := L) (c := 103)) pDig_mo
  · split
    · exact Nat.le_trans (pNext_mo (L := L) (c := 110)) (Nat.le_trans (pWant_mo (L := L)) pNum_mo)
    · exact pDig_mo
theorem pCond_mo : σ.1 ≤ (pCond L σ).1 := Nat.le_trans (pNext_mo (L := L) (c := 33)) pCond1_mo
theorem pCond_le (h : σ.1 ≤ L.length) : (pCond L σ).1 ≤ L.length := by
  have h1 := pNext_le (c := 33) (by decide) h
  unfold pCond pCond1
  split
  · exact pDig_le (pNext_le (by decide) h1)
  · split
    · have hs := pSig_b (k := pCondK L (pNext L 33 σ))
      exact pNum_le (pWant_le (by omega) (pNext_le (by decide) h1))
    · exact pDig_le h1
theorem pMore_no {f : Nat} (h : ¬ pNx L 38 σ = true) : pMore L f σ = ([], σ) := by
  cases f with
  | zero => rfl
  | succ f => exact if_neg h
theorem pMore_s {f : Nat} (hf : 0 < f) (h : pNx L 38 σ = true) : pMore L f σ = (pCondC L (pNext L 38 σ) :: (pMore L (f - 1) (pCond L (pNext L 38 σ))).1, (pMore L (f - 1) (pCond L (pNext L 38 σ))).2) := by
  cases f with
  | zero => omega
  | succ f => exact if_pos h
end MO
/-! the machine -/
theorem pIter_add {L : List Nat} {P : pP} : ∀ {m n : Nat}, pIter L (m + n) P = pIter L n (pIter L m P)
  | 0, n => by rw [Nat.zero_add]; rfl
  | m + 1, n => by
    rw [show m + 1 + n = (m + n) + 1 by omega]
    show pIter L (m + n) (pStep L P) = pIter L n (pIter L m (pStep L P))
    exact pIter_add (P := pStep L P)
theorem pIter_1 {L : List Nat} {P : pP} (h : pRuns L P = true) : pIter L 1 P = pStep1 L P := if_pos h
theorem pRuns_of {L : List Nat} {P : pP} (h : (pσ P).2 = true) (h2 : (pσ P).1 < L.length ∨ ¬ (pOp P).length = 0) : pRuns L P = true := by
  rw [pRuns, h, Bool.true_and, Bool.not_eq_true', Bool.and_eq_false_iff, decide_eq_false_iff_not, decide_eq_false_iff_not]
  exact h2.elim (fun e => Or.inl (by omega)) Or.inr
theorem pRuns_no {L : List Nat} {P : pP} (h : pRuns L P = false) : ∀ n, pIter L n P = P
  | 0 => rfl
  | n + 1 => by
    show pIter L n (pStep L P) = P
    rw [show pStep L P = P from if_neg (by rw [h]; decide)]
    exact pRuns_no h n
/-- what an item's reading ends in -/
def itP (R : rR) (L : List Nat) (P : pP) : Option Value → rR → Prop := fun v R' => v = none ∧ ∃ n, prR R' L (pIter L n P) ∧ pFr R R' ∧ ((pσ (pIter L n P)).2 = true → pOp (pIter L n P) = pOp P ∧ (pσ P).1 < (pσ (pIter L n P)).1)
/-- it went wrong -/
theorem pr_bad {R R' : rR} {L : List Nat} {P : pP} {i : Nat} (h : prR R L P) (hf : pFr R R') (h12 : R'.1 12 = nI i) (h13 : R'.1 13 = nI i) (hi : i ≤ L.length) : prR R' L (pBad P (i, false)) := by
  refine ⟨ln_fr h.1 hf, h12, h13, hi, fun e => ?_⟩
  have e2 : false = true := e
  exact absurd e2 (by decide)
theorem it_bad {R R' : rR} {L : List Nat} {P : pP} {i n : Nat} (h : prR R L P) (hf : pFr R R') (h12 : R'.1 12 = nI i) (h13 : R'.1 13 = nI i) (hi : i ≤ L.length) (hn : pIter L n P = pBad P (i, false)) : itP R L P none R' := by
  refine ⟨rfl, n, by rw [hn]; exact pr_bad h hf h12 h13 hi, hf, fun e => ?_⟩
  rw [hn] at e
  have e2 : false = true := e
  exact absurd e2 (by decide)
def wM (L : List Nat) (P : pP) : Nat := if (pσ P).2 = true then 1 + (L.length - (pσ P).1) else 0
theorem wM_lt {L : List Nat} {P P' : pP} (h : (pσ P).2 = true) (h1 : (pσ P').1 ≤ L.length) (h2 : (pσ P').2 = true → (pσ P).1 < (pσ P').1) : wM L P' < wM L P := by
  unfold wM
  rw [if_pos h]
  by_cases e : (pσ P').2 = true
  · rw [if_pos e]
    have := h2 e
    omega
  · rw [if_neg e]
    omega
theorem pAtI_app {X : List pIt} {x : pIt} {i : Nat} (h : i < X.length) : pAtI (X ++ [x]) i = pAtI X i := getD_app h
theorem pAtI_new {X : List pIt} {x : pIt} : pAtI (X ++ [x]) X.length = x := getD_appN
theorem pAtC_app {X Y : List pCo} {i : Nat} (h : i < X.length) : pAtC (X ++ Y) i = pAtC X i := by
  rw [pAtC, pAtC, List.getD_eq_getElem?_getD, List.getD_eq_getElem?_getD, List.getElem?_append_left h]
theorem pAtC_app2 {X Y : List pCo} {i : Nat} : pAtC (X ++ Y) (X.length + i) = pAtC Y i := by
  rw [pAtC, pAtC, List.getD_eq_getElem?_getD, List.getD_eq_getElem?_getD, List.getElem?_append_right (by omega), Nat.add_sub_cancel_left]
theorem setTill_len {X : List pIt} {i t : Nat} : (setTill X i t).length = X.length := List.length_set
theorem setTill_ne {X : List pIt} {i j t : Nat} (h : j ≠ i) : pAtI (setTill X i t) j = pAtI X j := by
  rw [pAtI, setTill, List.getD_eq_getElem?_getD, List.getElem?_set_ne (fun e => h e.symm), ← List.getD_eq_getElem?_getD, pAtI]
theorem setTill_eq {X : List pIt} {i t : Nat} (h : i < X.length) : pAtI (setTill X i t) i = ((pAtI X i).1, (pAtI X i).2.1, (pAtI X i).2.2.1, (pAtI X i).2.2.2.1, (pAtI X i).2.2.2.2.1, t) := by
  conv => lhs; rw [pAtI, setTill, List.getD_eq_getElem?_getD, List.getElem?_set_self h]
  rfl
/-- behind an opening bracket and its conditions -/
theorem pr_open {R X : rR} {L : List Nat} {a dp : Nat} {its : List pIt} {cos cs : List pCo} {op : List Nat} {τ : pS} (hXl : lnR X L) (h14 : X.1 14 = nI (op.length + 1)) (h15 : X.1 15 = nI (max dp (op.length + 1))) (h16 : X.1 16 = nI (its.length + 1)) (h22 : X.1 22 = nI cos.length)
    (hi : ∀ i, i < its.length → itR X i (pAtI its i)) (hn : X.2 17 its.length = nI 5 ∧ X.2 18 its.length = nI a ∧ X.2 19 its.length = nI cos.length) (hc : ∀ j, j < cos.length → cdR X j (pAtC cos j)) (ht : ∀ i, i < its.length → i ∉ op → X.2 21 i = nI (iTill (pAtI its i)))
    (hm : ∀ i ∈ op, i < its.length) (hτ : τ.1 ≤ L.length) (hlen : cos.length + cs.length ≤ τ.1) (hil : its.length + 1 ≤ τ.1) (hop : op.length < 4) (hdp : dp ≤ 4) :
    prR (sgR (ra (coLR X cos.length cs) 20 its.length (nI (cos.length + cs.length))) (pWant L 58 τ)) L (pWant L 58 τ, its ++ [(5, a, op, cos.length, cos.length + cs.length, 0)], cos ++ cs, its.length :: op, max dp (op.length + 1)) := by
  have hw := pWant_mo (L := L) (σ := τ) (c := 58)
  refine ⟨ln_fr hXl (pFr_sg (pFr_ra (pFr_coL pFr_refl) (by decide))), rfl, rfl, pWant_le (by decide) hτ, fun _ => ⟨?_, ?_, ?_, ?_, fun i hi2 => ?_, fun j hj => ?_, ?_, ?_, ?_, ?_, fun i hi2 => ?_, fun i hi2 hi3 => ?_⟩⟩
  · show (coLR X cos.length cs).1 14 = _
    rw [coLR_1 (by decide)]; exact h14
  · show (coLR X cos.length cs).1 15 = _
    rw [coLR_1 (by decide)]; exact h15
  · show (coLR X cos.length cs).1 16 = nI (its ++ [_]).length
    rw [coLR_1 (by decide), List.length_append]; exact h16
  · show (coLR X cos.length cs).1 22 = nI (cos ++ cs).length
    rw [coLR_22 h22, List.length_append]
  · have hi3 : i < its.length + 1 := by
      have e : i < (its ++ [((5, a, op, cos.length, cos.length + cs.length, 0) : pIt)]).length := hi2
      rwa [List.length_append] at e
    show (coLR X cos.length cs).2 17 i = _ ∧ (coLR X cos.length cs).2 18 i = _ ∧ (coLR X cos.length cs).2 19 i = _ ∧ upd ((coLR X cos.length cs).2 20) its.length _ i = _
    rw [coLR_2 (by decide) (by decide) (by decide), coLR_2 (by decide) (by decide) (by decide), coLR_2 (by decide) (by decide) (by decide), coLR_2 (by decide) (by decide) (by decide)]
    by_cases e : i < its.length
    · show _ = nI (iKind (pAtI (its ++ [_]) i)) ∧ _ = nI (iPlace (pAtI (its ++ [_]) i)) ∧ _ = nI (iOne (pAtI (its ++ [_]) i)) ∧ _ = nI (iTwo (pAtI (its ++ [_]) i))
      rw [pAtI_app e]
      have h := hi i e
      exact ⟨h.1, h.2.1, h.2.2.1, (pk_un (by omega)).trans h.2.2.2⟩
    · obtain rfl : i = its.length := by omega
      show _ = nI (iKind (pAtI (its ++ [_]) its.length)) ∧ _ = nI (iPlace (pAtI (its ++ [_]) its.length)) ∧ _ = nI (iOne (pAtI (its ++ [_]) its.length)) ∧ _ = nI (iTwo (pAtI (its ++ [_]) its.length))
      rw [pAtI_new]
      exact ⟨hn.1, hn.2.1, hn.2.2, pk_us⟩
  · have hj2 : j < cos.length + cs.length := by
      have e : j < (cos ++ cs).length := hj
      rwa [List.length_append] at e
    show cdR (coLR X cos.length cs) j (pAtC (cos ++ cs) j)
    by_cases e : j < cos.length
    · rw [pAtC_app e]
      exact coLR_old e (hc j e)
    · obtain ⟨i, rfl⟩ : ∃ i, j = cos.length + i := ⟨j - cos.length, by omega⟩
      rw [pAtC_app2]
      exact coLR_new (by omega)
  · show (its ++ [_]).length ≤ (pWant L 58 τ).1
    rw [List.length_append]
    show its.length + 1 ≤ _
    omega
  · show (cos ++ cs).length ≤ (pWant L 58 τ).1
    rw [List.length_append]
    omega
  · show op.length + 1 ≤ 4
    omega
  · show max dp (op.length + 1) ≤ 4
    omega
  · show i < (its ++ [_]).length
    rw [List.length_append]
    show i < its.length + 1
    have hi3 : i ∈ its.length :: op := hi2
    rcases List.mem_cons.mp hi3 with e | e
    · omega
    · have := hm i e; omega
  · have hi4 : i < its.length + 1 := by
      have e : i < (its ++ [((5, a, op, cos.length, cos.length + cs.length, 0) : pIt)]).length := hi2
      rwa [List.length_append] at e
    have hi5 : i ∉ its.length :: op := hi3
    have e1 : i ≠ its.length := fun e => hi5 (e ▸ List.mem_cons_self)
    have e2 : i ∉ op := fun e => hi5 (List.mem_cons_of_mem _ e)
    show (coLR X cos.length cs).2 21 i = nI (iTill (pAtI (its ++ [_]) i))
    rw [coLR_2 (by decide) (by decide) (by decide), pAtI_app (by omega)]
    exact ht i (by omega) e2
section BR
variable {R R2 : rR} {L : List Nat} {P P2 : pP} {n : Nat} {x y : Int32}
theorem br_fr (hf : pFr R R2) {τ : pS} : pFr R (ra (rs (sgR R2 τ) 14 x) 21 n y) := pFr_ra (pFr_rs (pFr_sg hf) (by decide)) (by decide)
theorem brk_a (hq : prR R2 L P2) (hf : pFr R R2) (hk : ∃ k, P2 = pIter L k P) (h : 0 ≤ pF (pσ P2)) : itP R L P none (ra (rs (sgR R2 (pWant L 93 (pσ P2))) 14 x) 21 n y) := by
  obtain ⟨k, hk⟩ := hk
  rw [want_f h]
  have hb := pF_nn h
  refine ⟨rfl, k, ?_, br_fr hf, fun e => ?_⟩
  · rw [← hk]
    refine ⟨ln_fr hq.1 (br_fr pFr_refl), rfl, rfl, hq.2.2.2.1, fun e => ?_⟩
    rw [hb] at e
    exact absurd e (by decide)
  · rw [← hk, hb] at e
    exact absurd e (by decide)
theorem brk_b (hq : prR R2 L P2) (hf : pFr R R2) (hk : ∃ k, P2 = pIter L k P) (h0 : pF (pσ P2) < 0) (hop : (pσ P2).2 = true → pOp P2 = n :: pOp P) (h : hereZ L (pσ P2).1 < 0) : itP R L P none (ra (rs (sgR R2 (pWant L 93 (pσ P2))) 14 x) 21 n y) := by
  obtain ⟨k, hk⟩ := hk
  have hok := pF_neg h0
  have hl : L.length ≤ (pσ P2).1 := by
    by_cases e : (pσ P2).1 < L.length
    · unfold hereZ at h
      rw [if_pos e] at h
      omega
    · omega
  have hc0 : pC L (pσ P2).1 = 0 := pC_out hl
  have hr : pRuns L P2 = true := pRuns_of hok (Or.inr (by rw [hop hok]; simp))
  have hs : pIter L 1 P2 = pBad P2 ((pσ P2).1, false) := by
    rw [pIter_1 hr, pStep1, hc0]
    rfl
  have hw : pWant L 93 (pσ P2) = ((pσ P2).1, false) := by
    rw [pWant, if_pos hok, if_neg (by rw [hc0]; decide)]
  rw [hw]
  have e9 : pIter L (k + 1) P = pBad P2 ((pσ P2).1, false) := by rw [pIter_add, ← hk, hs]
  refine ⟨rfl, k + 1, ?_, br_fr hf, fun e => ?_⟩
  · rw [e9]
    refine ⟨ln_fr hq.1 (br_fr pFr_refl), rfl, rfl, hq.2.2.2.1, fun e => ?_⟩
    have e2 : false = true := e
    exact absurd e2 (by decide)
  · rw [e9] at e
    have e2 : false = true := e
    exact absurd e2 (by decide)
theorem brk_c (hq : prR R2 L P2) (hf : pFr R R2) (hk : ∃ k, P2 = pIter L k P) (h0 : pF (pσ P2) < 0) (hop : (pσ P2).2 = true → pOp P2 = n :: pOp P) (hat : (pσ P2).2 = true → (pσ P).1 < (pσ P2).1) (h : hereZ L (pσ P2).1 = ((93 : Nat) : Int)) (hx : x = nI (pOp P).length) (hy : y = nI (pIts P2).length) : itP R L P none (ra (rs (sgR R2 (pWant L 93 (pσ P2))) 14 x) 21 n y) := by
  subst hx; subst hy
  obtain ⟨k, hk⟩ := hk
  have hok := pF_neg h0
  have hop2 := hop hok
  have hat2 := hat hok
  have hc0 : pC L (pσ P2).1 = 93 := (here_iff hq.1.2.2.2 (by decide)).mp h
  have hl : (pσ P2).1 < L.length := lt_of_pC (by rw [hc0]; decide)
  have hr : pRuns L P2 = true := pRuns_of hok (Or.inl hl)
  have hw : pWant L 93 (pσ P2) = ((pσ P2).1 + 1, true) := by
    rw [pWant, if_pos hok, if_pos hc0]
  have hs : pIter L 1 P2 = (((pσ P2).1 + 1, true), setTill (pIts P2) n (pIts P2).length, pCos P2, pOp P, pDeep P2) := by
    rw [pIter_1 hr, pStep1, if_neg (by rw [hc0]; decide), if_pos hc0, hop2]
  have e9 : pIter L (k + 1) P = (((pσ P2).1 + 1, true), setTill (pIts P2) n (pIts P2).length, pCos P2, pOp P, pDeep P2) := by rw [pIter_add, ← hk, hs]
  rw [hw]
  obtain ⟨w1, w2, w3, w4, w5, w6, w7, w8, w9, w10, w11, w12⟩ := hq.2.2.2.2 hok
  have hnl : n < (pIts P2).length := w11 n (by rw [hop2]; exact List.mem_cons_self)
  refine ⟨rfl, k + 1, ?_, br_fr hf, fun e => ?_⟩
  · rw [e9]
    refine ⟨ln_fr hq.1 (br_fr pFr_refl), rfl, rfl, hl, fun _ => ⟨rfl, w2, ?_, w4, fun i hi => ?_, w6, ?_, Nat.le_succ_of_le w8, ?_, w10, fun i hi => ?_, fun i hi hi2 => ?_⟩⟩
    · show R2.1 16 = nI (setTill (pIts P2) n (pIts P2).length).length
      rw [setTill_len]; exact w3
    · have hi2 : i < (pIts P2).length := by
        have e : i < (setTill (pIts P2) n (pIts P2).length).length := hi
        rwa [setTill_len] at e
      have h5 := w5 i hi2
      show itR _ i (pAtI (setTill (pIts P2) n (pIts P2).length) i)
      by_cases e : i = n
      · subst e
        rw [setTill_eq hnl]
        exact h5
      · rw [setTill_ne e]
        exact h5
    · show (setTill (pIts P2) n (pIts P2).length).length ≤ (pσ P2).1 + 1
      rw [setTill_len]; exact Nat.le_succ_of_le w7
    · show (pOp P).length ≤ 4
      rw [hop2, List.length_cons] at w9
      omega
    · show i < (setTill (pIts P2) n (pIts P2).length).length
      rw [setTill_len]
      exact w11 i (by rw [hop2]; exact List.mem_cons_of_mem _ hi)
    · have hi3 : i < (pIts P2).length := by
        have e : i < (setTill (pIts P2) n (pIts P2).length).length := hi
        rwa [setTill_len] at e
      show upd (R2.2 21) n (nI (pIts P2).length) i = nI (iTill (pAtI (setTill (pIts P2) n (pIts P2).length) i))
      by_cases e : i = n
      · subst e
        rw [setTill_eq hnl]
        exact pk_us
      · rw [setTill_ne e, pk_un e]
        refine w12 i hi3 (fun e2 => ?_)
        rw [hop2] at e2
        exact (List.mem_cons.mp e2).elim e hi2
  · rw [e9]
    exact ⟨rfl, Nat.lt_succ_of_lt hat2⟩
end BR
