theorem pCondC_wf {L : List Nat} {σ : pS} : wfC (pCondC L σ) := by
  have h1 := pCondK_le (L := L) (σ := pNext L 33 σ)
  have hv : pCond1V L (pNext L 33 σ) ≤ 99 ∧ (pCondK L (pNext L 33 σ) = 0 → pCond1V L (pNext L 33 σ) ≤ 4) ∧ (pCondK L (pNext L 33 σ) = 1 → pCond1V L (pNext L 33 σ) ≤ 9) := by
    generalize pNext L 33 σ = τ
    by_cases a : pNx L 103 τ = true
    · have e := cg a
      have b := pDv_le (L := L) (n := 9) (σ := pNext L 103 τ) (by omega)
      rw [e.1, e.2.1]
      omega
    · by_cases b : pNx L 110 τ = true
      · have hk : 2 ≤ pCondK L τ := by
          rw [kd_b a b]
          split
          · omega
          · split <;> omega
        have hn : pCond1V L τ ≤ 99 := by
          rw [show pCond1V L τ = pNumV L (pWant L (pSig (pCondK L τ)) (pNext L 110 τ)) from (if_neg a).trans (if_pos b)]
          generalize pWant L (pSig (pCondK L τ)) (pNext L 110 τ) = ρ
          have d1 := pDv_le (L := L) (n := 9) (σ := ρ) (by omega)
          have d2 := pDv_le (L := L) (n := 9) (σ := pDig L 9 ρ) (by omega)
          unfold pNumV
          split <;> omega
        exact ⟨hn, fun e => by omega, fun e => by omega⟩
      · have e := ce a b
        have d := pDv_le (L := L) (n := 4) (σ := τ) (by omega)
        rw [e.1, e.2.1]
        omega
  exact ⟨h1, hv.1, hv.2.1, hv.2.2⟩
theorem pMore_wf {L : List Nat} : ∀ (f : Nat) (σ : pS), ∀ x ∈ (pMore L f σ).1, wfC x
  | 0, σ, x, h => absurd (show x ∈ ([] : List pCo) from h) List.not_mem_nil
  | f + 1, σ, x, h => by
    by_cases e : pNx L 38 σ = true
    · rw [pMore_s (by omega) e] at h
      rcases List.mem_cons.mp h with h | h
      · rw [h]; exact pCondC_wf
      · exact pMore_wf f _ x h
    · rw [pMore_no e] at h
      exact absurd (show x ∈ ([] : List pCo) from h) List.not_mem_nil
theorem pOpen_wf {L : List Nat} {a : Nat} : ∀ j, j < (pOpen L a).1.length → wfC (pAtC (pOpen L a).1 j) := by
  intro j hj
  have hm : pAtC (pOpen L a).1 j ∈ (pOpen L a).1 := by
    rw [pAtC, List.getD_eq_getElem?_getD, List.getElem?_eq_getElem hj]
    exact List.getElem_mem hj
  rcases List.mem_cons.mp hm with h | h
  · rw [h]; exact pCondC_wf
  · exact pMore_wf 121 _ _ h
theorem pWant_ok {L : List Nat} {c : Nat} {σ : pS} (h : (pWant L c σ).2 = true) : σ.2 = true ∧ pC L σ.1 = c ∧ pWant L c σ = (σ.1 + 1, true) := by
  unfold pWant at h ⊢
  by_cases a : σ.2 = true
  · rw [if_pos a] at h ⊢
    by_cases b : pC L σ.1 = c
    · rw [if_pos b]
      exact ⟨a, b, rfl⟩
    · rw [if_neg b] at h
      exact absurd (show false = true from h) (by decide)
  · rw [if_neg a] at h
    exact absurd h a
theorem pTwo_4 {L : List Nat} {a : Nat} (hal : a < L.length) (h : (pEndσ L 4 a).2 = true) : a + 1 ≤ pOne L 4 a ∧ pOne L 4 a + 1 ≤ pTwo L 4 a ∧ pTwo L 4 a < L.length := by
  have e1 : pOne L 4 a = pLit L 120 (a + 1) := rfl
  have e2 : pTwo L 4 a = (litE L 120 (pWant L 124 (pLit L 120 (a + 1), true))).1 := by
    rw [pTwo, if_neg (by decide), if_pos rfl, ← litE_1]
  have e3 : pEndσ L 4 a = pWant L 62 (litE L 120 (pWant L 124 (pLit L 120 (a + 1), true))) := by
    rw [pEndσ, if_neg (by decide), if_pos rfl]
    rfl
  rw [e3] at h
  obtain ⟨h1, h2, _⟩ := pWant_ok h
  have h3 : (pWant L 124 (pLit L 120 (a + 1), true)).2 = true := by
    unfold litE at h1
    by_cases q : (pWant L 124 (pLit L 120 (a + 1), true)).2 = true
    · exact q
    · rw [if_neg q] at h1
      exact h1
  obtain ⟨_, _, h4⟩ := pWant_ok h3
  rw [e1, e2]
  refine ⟨pLit_mo 120 (a + 1), ?_, ?_⟩
  · rw [h4]
    exact pLit_mo 120 _
  · exact lt_of_pC (by rw [h2]; decide)
/-- a step keeps it -/
theorem wf_step {L : List Nat} {P : pP} (h : wfP L (pIts P) (pCos P) (pOp P)) (h2 : (pσ (pStep1 L P)).2 = true) : wfP L (pIts (pStep1 L P)) (pCos (pStep1 L P)) (pOp (pStep1 L P)) := by
  have hb : ∀ Q : pP, Q = pBad P ((pσ P).1, false) → (pσ Q).2 = true → wfP L (pIts Q) (pCos Q) (pOp Q) := by
    intro Q hQ e
    subst hQ
    exact absurd (show false = true from e) (by decide)
  revert h2
  unfold pStep1
  by_cases h1 : pC L (pσ P).1 = 91
  · rw [if_pos h1]
    have hl : (pσ P).1 < L.length := lt_of_pC (by rw [h1]; decide)
    by_cases h4 : (pOp P).length = 4
    · rw [if_pos h4]
      exact hb _ rfl
    · rw [if_neg h4]
      intro _
      have h5 := h.2.2.2.2.1
      exact wf_push h (Or.inr ⟨rfl, rfl, by omega⟩) rfl (Nat.le_refl _) hl (fun e => absurd (show (5 : Nat) = 0 from e) (by decide)) (fun e => absurd (show (5 : Nat) = 3 from e) (by decide)) (fun e => absurd (show (5 : Nat) = 4 from e) (by decide)) (fun _ => ⟨Nat.le_add_right _ _, by rw [List.length_append]; exact Nat.le_refl _⟩) (fun e => absurd rfl e) pOpen_wf
  · rw [if_neg h1]
    by_cases h3 : pC L (pσ P).1 = 93
    · rw [if_pos h3]
      cases ho : pOp P with
      | nil => exact hb _ rfl
      | cons i s =>
        intro _
        rw [ho] at h
        exact wf_close h
    · rw [if_neg h3]
      cases hk : pKind (pC L (pσ P).1) with
      | none => exact hb _ rfl
      | some k =>
        intro hok
        have hl : (pσ P).1 < L.length := by
          refine lt_of_pC ?_
          by_cases e : pC L (pσ P).1 = 0
          · rw [e] at hk
            have e0 : pKind 0 = none := by decide
            rw [e0] at hk
            cases hk
          · omega
        have hk4 := pKind_le hk
        have hne : iKind ((k, (pσ P).1, pOp P, pOne L k (pσ P).1, pTwo L k (pσ P).1, (pIts P).length + 1) : pIt) ≠ 5 := by
          show k ≠ 5
          omega
        have hw := wf_push (cs := []) (x := (k, (pσ P).1, pOp P, pOne L k (pσ P).1, pTwo L k (pσ P).1, (pIts P).length + 1)) h (Or.inl ⟨rfl, hne⟩) rfl (show k ≤ 5 by omega) hl (fun e => by have e : k = 0 := e; subst e; rfl) (fun e => by
            have e : k = 3 := e
            subst e
            refine ⟨pDv_le (by decide), ?_⟩
            show (if pNx L 94 (pDig L 4 ((pσ P).1 + 1, true)) = true then 1 else if pNx L 42 (pDig L 4 ((pσ P).1 + 1, true)) = true then 2 else 0) ≤ 2
            split
            · omega
            · split <;> omega) (fun e => by
            have e : k = 4 := e
            subst e
            exact pTwo_4 hl hok) (fun e => absurd e hne) (fun _ => rfl) (fun j hj => absurd hj (Nat.not_lt_zero j))
        rw [List.append_nil] at hw
        exact hw
theorem wf_iter {L : List Nat} : ∀ (n : Nat) (P : pP), ((pσ P).2 = true → wfP L (pIts P) (pCos P) (pOp P)) → (pσ (pIter L n P)).2 = true → wfP L (pIts (pIter L n P)) (pCos (pIter L n P)) (pOp (pIter L n P))
  | 0, P, h, e => h e
  | n + 1, P, h, e => by
    refine wf_iter n (pStep L P) (fun e2 => ?_) e
    unfold pStep at e2 ⊢
    by_cases hr : pRuns L P = true
    · rw [if_pos hr] at e2 ⊢
      have hw : (pσ P).2 = true := by
        rw [pRuns, Bool.and_eq_true] at hr
        exact hr.1
      exact wf_step (h hw) e2
    · rw [if_neg hr] at e2 ⊢
      exact h e2
/-- of a template -/
theorem wf_end {L : List Nat} (h : pOK L = true) : wfP L (pIts (pEnd L)) (pCos (pEnd L)) (pOp (pEnd L)) := by
  unfold pOK pEnd at h
  unfold pEnd
  exact wf_iter 122 pP0 (fun _ => wf_0) h
theorem op_end {L : List Nat} (hl : L.length ≤ 120) (h : pOK L = true) : pOp (pEnd L) = [] := by
  have hs := pEnd_stop hl
  rw [pRuns, show (pσ (pEnd L)).2 = true from h, Bool.true_and] at hs
  by_cases e : (pOp (pEnd L)).length = 0
  · exact List.eq_nil_of_length_eq_zero e
  · rw [decide_eq_false e, Bool.and_false] at hs
    exact absurd hs (by decide)
