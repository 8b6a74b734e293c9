/-! ===== the reference at work on a template ===== -/
/-- what reading a template leaves alone -/
def pFr (R R' : rR) : Prop := (∀ k, k ≠ 12 → k ≠ 13 → k ≠ 14 → k ≠ 15 → k ≠ 16 → k ≠ 22 → R'.1 k = R.1 k) ∧ (∀ k, k ≠ 17 → k ≠ 18 → k ≠ 19 → k ≠ 20 → k ≠ 21 → k ≠ 23 → k ≠ 24 → k ≠ 25 → R'.2 k = R.2 k)
theorem pFr_refl {R : rR} : pFr R R := ⟨fun _ _ _ _ _ _ _ => rfl, fun _ _ _ _ _ _ _ _ _ => rfl⟩
theorem pFr_trans {R R' R'' : rR} (h : pFr R R') (h2 : pFr R' R'') : pFr R R'' := ⟨fun k a b c d e f => (h2.1 k a b c d e f).trans (h.1 k a b c d e f), fun k a b c d e f g i => (h2.2 k a b c d e f g i).trans (h.2 k a b c d e f g i)⟩
theorem pFr_rs {R R' : rR} {k : Nat} {v : Int32} (h : pFr R R') (hk : k = 12 ∨ k = 13 ∨ k = 14 ∨ k = 15 ∨ k = 16 ∨ k = 22) : pFr R (rs R' k v) := by
  refine ⟨fun j a b c d e f => ?_, h.2⟩
  show (if j = k then v else R'.1 j) = R.1 j
  rw [if_neg (by omega)]
  exact h.1 j a b c d e f
theorem pFr_ra {R R' : rR} {k i : Nat} {v : Int32} (h : pFr R R') (hk : k = 17 ∨ k = 18 ∨ k = 19 ∨ k = 20 ∨ k = 21 ∨ k = 23 ∨ k = 24 ∨ k = 25) : pFr R (ra R' k i v) := by
  refine ⟨h.1, fun j a b c d e f g i' => ?_⟩
  show (if j = k then upd (R'.2 j) i v else R'.2 j) = R.2 j
  rw [if_neg (by omega)]
  exact h.2 j a b c d e f g i'
theorem pFr_sg {R R' : rR} {σ : pS} (h : pFr R R') : pFr R (sgR R' σ) := pFr_rs (pFr_rs h (by decide)) (by decide)
theorem pFr_co {R R' : rR} {m : Nat} {x : pCo} (h : pFr R R') : pFr R (coR R' m x) := pFr_rs (pFr_ra (pFr_ra (pFr_ra h (by decide)) (by decide)) (by decide)) (by decide)
theorem pFr_ly {R R' : rR} {n k p : Nat} (h : pFr R R') : pFr R (lyR R' n k p) := pFr_rs (pFr_ra (pFr_ra (pFr_ra (pFr_ra h (by decide)) (by decide)) (by decide)) (by decide)) (by decide)
theorem ln_fr {R R' : rR} {L : List Nat} (h : lnR R L) (hf : pFr R R') : lnR R' L := by
  refine ⟨(hf.1 11 (by decide) (by decide) (by decide) (by decide) (by decide) (by decide)).trans h.1, fun i hi => ?_, h.2.2⟩
  rw [hf.2 10 (by decide) (by decide) (by decide) (by decide) (by decide) (by decide) (by decide) (by decide)]
  exact h.2.1 i hi
/-- an item in the rows -/
def itR (R : rR) (i : Nat) (x : pIt) : Prop := R.2 17 i = nI (iKind x) ∧ R.2 18 i = nI (iPlace x) ∧ R.2 19 i = nI (iOne x) ∧ R.2 20 i = nI (iTwo x) ∧ R.2 21 i = nI (iTill x)
def cdR (R : rR) (j : Nat) (x : pCo) : Prop := R.2 23 j = nI x.2.1 ∧ R.2 24 j = nI x.2.2 ∧ R.2 25 j = jb (x.1 = true)
/-- a reading that is well so far -/
def prW (R : rR) (P : pP) : Prop := R.1 14 = nI (pOp P).length ∧ R.1 15 = nI (pDeep P) ∧ R.1 16 = nI (pIts P).length ∧ R.1 22 = nI (pCos P).length ∧ (∀ i, i < (pIts P).length → itR R i (pAtI (pIts P) i)) ∧ (∀ j, j < (pCos P).length → cdR R j (pAtC (pCos P) j)) ∧ (pIts P).length ≤ (pσ P).1 ∧ (pCos P).length ≤ (pσ P).1 ∧ (pOp P).length ≤ 4 ∧ pDeep P ≤ 4 ∧ ∀ i ∈ pOp P, i < (pIts P).length
def prR (R : rR) (L : List Nat) (P : pP) : Prop := lnR R L ∧ R.1 12 = nI (pσ P).1 ∧ R.1 13 = zI (pF (pσ P)) ∧ (pσ P).1 ≤ L.length ∧ ((pσ P).2 = true → prW R P)
theorem sg_self {R : rR} {σ : pS} (h12 : R.1 12 = nI σ.1) (h13 : R.1 13 = zI (pF σ)) : R = sgR R σ := by
  refine Prod.ext (funext fun j => ?_) rfl
  show R.1 j = if j = 13 then zI (pF σ) else if j = 12 then nI σ.1 else R.1 j
  by_cases h : j = 13
  · rw [if_pos h, h, h13]
  · rw [if_neg h]
    by_cases h2 : j = 12
    · rw [if_pos h2, h2, h12]
    · rw [if_neg h2]
/-- conditions laid one after another -/
def coLR : rR → Nat → List pCo → rR
  | R, _, [] => R
  | R, m, x :: cs => coLR (coR R m x) (m + 1) cs
theorem coLR_app {x : pCo} : ∀ {cs : List pCo} {R : rR} {m : Nat}, coLR R m (cs ++ [x]) = coR (coLR R m cs) (m + cs.length) x
  | [], R, m => rfl
  | y :: cs, R, m => by
    show coLR (coR R m y) (m + 1) (cs ++ [x]) = coR (coLR (coR R m y) (m + 1) cs) (m + (y :: cs).length) x
    rw [coLR_app, List.length_cons, show m + 1 + cs.length = m + (cs.length + 1) by omega]
theorem coLR_22 : ∀ {cs : List pCo} {R : rR} {m : Nat}, R.1 22 = nI m → (coLR R m cs).1 22 = nI (m + cs.length)
  | [], R, m, h => h
  | y :: cs, R, m, h => by
    show (coLR (coR R m y) (m + 1) cs).1 22 = nI (m + (y :: cs).length)
    rw [coLR_22 (R := coR R m y) (m := m + 1) rfl, List.length_cons, show m + 1 + cs.length = m + (cs.length + 1) by omega]
theorem coLR_1 {k : Nat} (hk : k ≠ 22) : ∀ {cs : List pCo} {R : rR} {m : Nat}, (coLR R m cs).1 k = R.1 k
  | [], R, m => rfl
  | y :: cs, R, m => by
    show (coLR (coR R m y) (m + 1) cs).1 k = R.1 k
    rw [coLR_1 hk]
    exact if_neg hk
theorem coR_2 {R : rR} {m k : Nat} {x : pCo} (h3 : k ≠ 23) (h4 : k ≠ 24) (h5 : k ≠ 25) : (coR R m x).2 k = R.2 k := by
  show (if k = 24 then upd (if k = 23 then _ else _) m _ else if k = 23 then upd (if k = 25 then _ else _) m _ else if k = 25 then _ else R.2 k) = R.2 k
  rw [if_neg h4, if_neg h3, if_neg h5]
theorem coLR_2 {k : Nat} (h3 : k ≠ 23) (h4 : k ≠ 24) (h5 : k ≠ 25) : ∀ {cs : List pCo} {R : rR} {m : Nat}, (coLR R m cs).2 k = R.2 k
  | [], R, m => rfl
  | y :: cs, R, m => by
    show (coLR (coR R m y) (m + 1) cs).2 k = R.2 k
    rw [coLR_2 h3 h4 h5, coR_2 h3 h4 h5]
theorem pFr_coL {R : rR} : ∀ {cs : List pCo} {R' : rR} {m : Nat}, pFr R R' → pFr R (coLR R' m cs)
  | [], R', m, h => h
  | y :: cs, R', m, h => pFr_coL (R' := coR R' m y) (m := m + 1) (pFr_co h)
theorem coR_old {R : rR} {m j : Nat} {x y : pCo} (h : j < m) (hj : cdR R j y) : cdR (coR R m x) j y :=
  ⟨(pk_un (by omega)).trans hj.1, (pk_un (by omega)).trans hj.2.1, (pk_un (by omega)).trans hj.2.2⟩
theorem coR_new {R : rR} {m : Nat} {x : pCo} : cdR (coR R m x) m x := ⟨pk_us, pk_us, pk_us⟩
theorem coLR_old {j : Nat} {y : pCo} : ∀ {cs : List pCo} {R : rR} {m : Nat}, j < m → cdR R j y → cdR (coLR R m cs) j y
  | [], R, m, _, h => h
  | z :: cs, R, m, hj, h => coLR_old (R := coR R m z) (m := m + 1) (by omega) (coR_old hj h)
theorem coLR_new : ∀ {cs : List pCo} {R : rR} {m i : Nat}, i < cs.length → cdR (coLR R m cs) (m + i) (pAtC cs i)
  | [], R, m, i, h => absurd h (Nat.not_lt_zero _)
  | z :: cs, R, m, 0, h => coLR_old (R := coR R m z) (m := m + 1) (by omega) coR_new
  | z :: cs, R, m, i + 1, h => by
    have e := coLR_new (cs := cs) (R := coR R m z) (m := m + 1) (i := i) (by rw [List.length_cons] at h; omega)
    rw [show m + 1 + i = m + (i + 1) by omega] at e
    exact e
/-! places only grow -/
section MO
variable {L : List Nat} {σ : pS} {c n : Nat}
theorem pNext_mo : σ.1 ≤ (pNext L c σ).1 := by unfold pNext; split <;> simp
theorem pWant_mo : σ.1 ≤ (pWant L c σ).1 := by
  unfold pWant
  split
  · split <;> simp
  · exact Nat.le_refl _
theorem pDig_mo : σ.1 ≤ (pDig L n σ).1 := by
  unfold pDig
  split
  · split <;> simp
  · exact Nat.le_refl _
theorem pNum_mo : σ.1 ≤ (pNum L σ).1 := by
  unfold pNum
  split
  · exact Nat.le_trans (pDig_mo (L := L) (n := 9)) pDig_mo
  · exact pDig_mo
theorem pNum_le (h : σ.1 ≤ L.length) : (pNum L σ).1 ≤ L.length := by
  unfold pNum
  split
  · exact pDig_le (pDig_le h)
  · exact pDig_le h
theorem pCond1_mo : σ.1 ≤ (pCond1 L σ).1 := by
  unfold pCond1
  split
  · exact Nat.le_trans (pNext_mo (L := L) (c := 103)) pDig_mo
  · split
    · exact Nat.le_trans (pNext_mo (L := L) (c := 110)) (Nat.le_trans (pWant_mo (L := L)) pNum_mo)
    · exact pDig_mo
theorem pCond_mo : σ.1 ≤ (pCond L σ).1 := Nat.le_trans (pNext_mo (L := L) (c := 33)) pCond1_mo
theorem pCond_le (h : σ.1 ≤ L.length) : (pCond L σ).1 ≤ L.length := by
  have h1 := pNext_le (c := 33) (by decide) h
  unfold pCond pCond1
  split
  · exact pDig_le (pNext_le (by decide) h1)
  · split
    · have hs := pSig_b (k := pCondK L (pNext L 33 σ))
      exact pNum_le (pWant_le (by omega) (pNext_le (by decide) h1))
    · exact pDig_le h1
theorem pMore_no {f : Nat} (h : ¬ pNx L 38 σ = true) : pMore L f σ = ([], σ) := by
  cases f with
  | zero => rfl
  | succ f => exact if_neg h
theorem pMore_s {f : Nat} (hf : 0 < f) (h : pNx L 38 σ = true) : pMore L f σ = (pCondC L (pNext L 38 σ) :: (pMore L (f - 1) (pCond L (pNext L 38 σ))).1, (pMore L (f - 1) (pCond L (pNext L 38 σ))).2) := by
  cases f with
  | zero => omega
  | succ f => exact if_pos h
end MO
/-! the machine -/
theorem pIter_add {L : List Nat} {P : pP} : ∀ {m n : Nat}, pIter L (m + n) P = pIter L n (pIter L m P)
  | 0, n => by rw [Nat.zero_add]; rfl
  | m + 1, n => by
    rw [show m + 1 + n = (m + n) + 1 by omega]
    show pIter L (m + n) (pStep L P) = pIter L n (pIter L m (pStep L P))
    exact pIter_add (P := pStep L P)
theorem pIter_1 {L : List Nat} {P : pP} (h : pRuns L P = true) : pIter L 1 P = pStep1 L P := if_pos h
theorem pRuns_of {L : List Nat} {P : pP} (h : (pσ P).2 = true) (h2 : (pσ P).1 < L.length ∨ ¬ (pOp P).length = 0) : pRuns L P = true := by
  rw [pRuns, h, Bool.true_and, Bool.not_eq_true', Bool.and_eq_false_iff, decide_eq_false_iff_not, decide_eq_false_iff_not]
  exact h2.elim (fun e => Or.inl (by omega)) Or.inr
theorem pRuns_no {L : List Nat} {P : pP} (h : pRuns L P = false) : ∀ n, pIter L n P = P
  | 0 => rfl
  | n + 1 => by
    show pIter L n (pStep L P) = P
    rw [show pStep L P = P from if_neg (by rw [h]; decide)]
    exact pRuns_no h n
/-- what an item's reading ends in -/
def itP (R : rR) (L : List Nat) (P : pP) : Option Value → rR → Prop := fun v R' => v = none ∧ ∃ n, prR R' L (pIter L n P) ∧ pFr R R' ∧ ((pσ (pIter L n P)).2 = true → pOp (pIter L n P) = pOp P ∧ (pσ P).1 < (pσ (pIter L n P)).1)
/-- it went wrong -/
theorem pr_bad {R R' : rR} {L : List Nat} {P : pP} {i : Nat} (h : prR R L P) (hf : pFr R R') (h12 : R'.1 12 = nI i) (h13 : R'.1 13 = nI i) (hi : i ≤ L.length) : prR R' L (pBad P (i, false)) := by
  refine ⟨ln_fr h.1 hf, h12, h13, hi, fun e => ?_⟩
  have e2 : false = true := e
  exact absurd e2 (by decide)
theorem it_bad {R R' : rR} {L : List Nat} {P : pP} {i n : Nat} (h : prR R L P) (hf : pFr R R') (h12 : R'.1 12 = nI i) (h13 : R'.1 13 = nI i) (hi : i ≤ L.length) (hn : pIter L n P = pBad P (i, false)) : itP R L P none R' := by
  refine ⟨rfl, n, by rw [hn]; exact pr_bad h hf h12 h13 hi, hf, fun e => ?_⟩
  rw [hn] at e
  have e2 : false = true := e
  exact absurd e2 (by decide)
