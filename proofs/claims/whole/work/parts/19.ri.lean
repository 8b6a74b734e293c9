/-! ===== the reference's state and what it means ===== -/
def setG (S : aSet) : Prop := setOK S ∧ pOK (sTmpl S) = true
def ranZ : Option aRun → Int
  | none => -1
  | some L => L.length
def ranAt (L : aRun) (r : Nat) : Nat × List Nat × List Nat := L.getD r (0, [], [])
def ranRep (R : rR) (r : Nat) (x : Nat × List Nat × List Nat) : Prop := x.1 ≤ 4 ∧ x.2.1.length ≤ 200 ∧ x.2.2.length ≤ 5 ∧ R.2 31 r = nI x.1 ∧ R.2 32 r = nI x.2.1.length ∧ (∀ i, i < x.2.1.length → R.2 33 (200 * r + i) = nI (x.2.1.getD i 0)) ∧ R.2 34 r = nI x.2.2.length ∧ (∀ i, i < x.2.2.length → R.2 35 (5 * r + i) = nI (x.2.2.getD i 0)) ∧ (∀ c ∈ x.2.1, c ≤ 126) ∧ (∀ c ∈ x.2.2, c ≤ 120) ∧ (x.1 ≠ 0 → x.2.1 = []) ∧ (x.1 < 3 → x.2.2 = [])
def rInv (R : rR) (T : aSt) : Prop := (rowRep (R.2 1) 0 (tSet T)) ∧ (setG (tSet T)) ∧ ((tPast T).length ≤ 8) ∧ (R.1 2 = nI (tPast T).length) ∧ (∀ k S, (tPast T)[k]? = some S → rowRep (R.2 1) (1479 * (k + 1)) S ∧ setG S) ∧ (R.1 3 = jb ((tSave T).isSome = true)) ∧ (∀ S, tSave T = some S → rowRep (R.2 1) (1479 * 9) S ∧ setG S) ∧ ((tBuf T).length ≤ 120) ∧ (R.1 5 = nI (tBuf T).length) ∧ (∀ i, i < (tBuf T).length → R.2 4 i = nI ((tBuf T).getD i 0)) ∧ (∀ c ∈ tBuf T, 32 ≤ c ∧ c ≤ 126) ∧ (R.1 6 = zI (optZ (tErr T))) ∧ (∀ k, tErr T = some k → k ≤ 120) ∧ (R.1 30 = zI (ranZ (tRun T))) ∧ (∀ L, tRun T = some L → 0 < L.length ∧ L.length ≤ 20 ∧ ∀ r, r < L.length → ranRep R r (ranAt L r))
theorem ri_row {R : rR} {T : aSt} (h : rInv R T) : rowRep (R.2 1) 0 (tSet T) := h.1
theorem ri_ok {R : rR} {T : aSt} (h : rInv R T) : setG (tSet T) := h.2.1
theorem ri_pn {R : rR} {T : aSt} (h : rInv R T) : (tPast T).length ≤ 8 := h.2.2.1
theorem ri_ch {R : rR} {T : aSt} (h : rInv R T) : R.1 2 = nI (tPast T).length := h.2.2.2.1
theorem ri_past {R : rR} {T : aSt} (h : rInv R T) : ∀ k S, (tPast T)[k]? = some S → rowRep (R.2 1) (1479 * (k + 1)) S ∧ setG S := h.2.2.2.2.1
theorem ri_sv {R : rR} {T : aSt} (h : rInv R T) : R.1 3 = jb ((tSave T).isSome = true) := h.2.2.2.2.2.1
theorem ri_svr {R : rR} {T : aSt} (h : rInv R T) : ∀ S, tSave T = some S → rowRep (R.2 1) (1479 * 9) S ∧ setG S := h.2.2.2.2.2.2.1
theorem ri_bn {R : rR} {T : aSt} (h : rInv R T) : (tBuf T).length ≤ 120 := h.2.2.2.2.2.2.2.1
theorem ri_bl {R : rR} {T : aSt} (h : rInv R T) : R.1 5 = nI (tBuf T).length := h.2.2.2.2.2.2.2.2.1
theorem ri_bc {R : rR} {T : aSt} (h : rInv R T) : ∀ i, i < (tBuf T).length → R.2 4 i = nI ((tBuf T).getD i 0) := h.2.2.2.2.2.2.2.2.2.1
theorem ri_bo {R : rR} {T : aSt} (h : rInv R T) : ∀ c ∈ tBuf T, 32 ≤ c ∧ c ≤ 126 := h.2.2.2.2.2.2.2.2.2.2.1
theorem ri_er {R : rR} {T : aSt} (h : rInv R T) : R.1 6 = zI (optZ (tErr T)) := h.2.2.2.2.2.2.2.2.2.2.2.1
theorem ri_eb {R : rR} {T : aSt} (h : rInv R T) : ∀ k, tErr T = some k → k ≤ 120 := h.2.2.2.2.2.2.2.2.2.2.2.2.1
theorem ri_rm {R : rR} {T : aSt} (h : rInv R T) : R.1 30 = zI (ranZ (tRun T)) := h.2.2.2.2.2.2.2.2.2.2.2.2.2.1
theorem ri_rr {R : rR} {T : aSt} (h : rInv R T) : ∀ L, tRun T = some L → 0 < L.length ∧ L.length ≤ 20 ∧ ∀ r, r < L.length → ranRep R r (ranAt L r) := h.2.2.2.2.2.2.2.2.2.2.2.2.2.2
theorem ri_pre {R : rR} {T : aSt} (h : rInv R T) : rPre R (tSet T) := ⟨ri_row h, (ri_ok h).1⟩
/-- what the state means hangs on these alone -/
theorem ri_fr {R R' : rR} {T : aSt} (h : rInv R T) (h2 : R'.1 2 = R.1 2) (h3 : R'.1 3 = R.1 3) (h5 : R'.1 5 = R.1 5) (h6 : R'.1 6 = R.1 6) (h30 : R'.1 30 = R.1 30) (a1 : R'.2 1 = R.2 1) (a4 : R'.2 4 = R.2 4) (a31 : R'.2 31 = R.2 31) (a32 : R'.2 32 = R.2 32) (a33 : R'.2 33 = R.2 33) (a34 : R'.2 34 = R.2 34) (a35 : R'.2 35 = R.2 35) : rInv R' T := by
  unfold rInv ranRep at *
  rw [h2, h3, h5, h6, h30, a1, a4, a31, a32, a33, a34, a35]
  exact h
theorem txRep_mv {A A' : Nat → Int32} {b b' n : Nat} {t : List Nat} (hn : t.length ≤ n) (hA : ∀ j, j < n → A' (b' + j) = A (b + j)) (h : txRep A b t) : txRep A' b' t := fun i hi => (hA i (by omega)).trans (h i hi)
theorem recRep_mv {A A' : Nat → Int32} {b b' : Nat} {q : aRec} (hq : recOK q) (hA : ∀ j, j < 67 → A' (b' + j) = A (b + j)) (h : recRep A b q) : recRep A' b' q := by
  refine ⟨(hA 0 (by decide)).trans h.1, (hA 1 (by decide)).trans h.2.1, fun f hf => ⟨?_, ?_⟩⟩
  · have e := hA (2 + f) (by omega)
    rw [← Nat.add_assoc, ← Nat.add_assoc] at e
    exact e.trans (h.2.2 f hf).1
  · refine txRep_mv (n := 12) (hq.2.2 f hf).1 (fun j hj => ?_) (h.2.2 f hf).2
    have e := hA (7 + 12 * f + j) (by omega)
    rw [show b' + (7 + 12 * f + j) = b' + 7 + 12 * f + j by omega, show b + (7 + 12 * f + j) = b + 7 + 12 * f + j by omega] at e
    exact e
theorem setOK_rec {S : aSet} (h : setOK S) {r : Nat} (hr : r < (sRecs S).length) : recOK (sAt S r) := by
  refine h.2.2.2.2.2.2.2 _ ?_
  rw [sAt, List.getD_eq_getElem?_getD, List.getElem?_eq_getElem hr]
  exact List.getElem_mem hr
theorem rowRep_mv {A A' : Nat → Int32} {b b' : Nat} {S : aSet} (hS : setOK S) (hA : ∀ j, j < 1479 → A' (b' + j) = A (b + j)) (h : rowRep A b S) : rowRep A' b' S := by
  have hn := hS.1
  have hh := hS.2.2.2.2.2.1.1
  have ht := hS.2.2.2.2.2.2.1.1
  obtain ⟨h0, h1, h2, h3, h4, h5, h6, h7, h8, h9⟩ := h
  refine ⟨(hA 0 (by decide)).trans h0, (hA 1 (by decide)).trans h1, (hA 2 (by decide)).trans h2, (hA 3 (by decide)).trans h3, (hA 4 (by decide)).trans h4, (hA 5 (by decide)).trans h5, ?_, (hA 18 (by decide)).trans h7, ?_, fun r hr => ?_⟩
  · refine txRep_mv (n := 12) hh (fun j hj => ?_) h6
    have e := hA (6 + j) (by omega)
    rwa [← Nat.add_assoc, ← Nat.add_assoc] at e
  · refine txRep_mv (n := 120) ht (fun j hj => ?_) h8
    have e := hA (19 + j) (by omega)
    rwa [← Nat.add_assoc, ← Nat.add_assoc] at e
  · refine recRep_mv (setOK_rec hS hr) (fun j hj => ?_) (h9 r hr)
    have e := hA (139 + 67 * r + j) (by omega)
    rw [show b' + (139 + 67 * r + j) = b' + 139 + 67 * r + j by omega, show b + (139 + 67 * r + j) = b + 139 + 67 * r + j by omega] at e
    exact e
/-- other records -/
theorem rowRep_recs {A A' : Nat → Int32} {S : aSet} {L : List aRec} (hS : setOK S) (h : rowRep A 0 S) (h0 : A' 0 = nI L.length) (hA : ∀ j, 1 ≤ j → j < 139 → A' j = A j) (hr : ∀ r, r < L.length → recRep A' (139 + 67 * r) (L.getD r rec0)) : rowRep A' 0 (withRecs S L) := by
  have hh := hS.2.2.2.2.2.1.1
  have ht := hS.2.2.2.2.2.2.1.1
  obtain ⟨k0, h1, h2, h3, h4, h5, h6, h7, h8, h9⟩ := h
  rw [Nat.zero_add] at h6 h8
  refine ⟨h0, (hA 1 (by decide) (by decide)).trans h1, (hA 2 (by decide) (by decide)).trans h2, (hA 3 (by decide) (by decide)).trans h3, (hA 4 (by decide) (by decide)).trans h4, (hA 5 (by decide) (by decide)).trans h5, ?_, (hA 18 (by decide) (by decide)).trans h7, ?_, fun r hr2 => ?_⟩
  · exact txRep_mv (n := 12) hh (fun j hj => hA (6 + j) (by omega) (by omega)) h6
  · exact txRep_mv (n := 120) ht (fun j hj => hA (19 + j) (by omega) (by omega)) h8
  · rw [Nat.zero_add]
    exact hr r hr2
theorem recRep_at {A : Nat → Int32} {S : aSet} (h : rowRep A 0 S) {r : Nat} (hr : r < (sRecs S).length) : recRep A (139 + 67 * r) (sAt S r) := by
  have := h.2.2.2.2.2.2.2.2.2 r hr
  rwa [Nat.zero_add] at this
theorem keepA_lo {A : Nat → Int32} {n j : Nat} (h : j < 1479) : keepA A n j = A j := by
  unfold keepA
  split
  · simp only [cpA, shA]
    rw [if_neg (by omega), if_neg (by omega)]
  · simp only [cpA]
    rw [if_neg (by omega)]
theorem keepA_9 {A : Nat → Int32} {n j : Nat} (hn : n ≤ 8) (h : 1479 * 9 ≤ j) : keepA A n j = A j := by
  unfold keepA
  split
  · simp only [cpA, shA]
    rw [if_neg (by omega), if_neg (by omega)]
  · simp only [cpA]
    rw [if_neg (by omega)]
theorem keepA_new {A : Nat → Int32} {n j : Nat} (h : j < 1479) : keepA A n (1479 * ((if n = 8 then 7 else n) + 1) + j) = A (0 + j) := by
  unfold keepA
  split
  · simp only [cpA, shA]
    rw [if_pos (by omega), if_neg (by omega)]
    exact congrArg A (by omega)
  · simp only [cpA]
    rw [if_pos (by omega)]
    exact congrArg A (by omega)
theorem keepA_old {A : Nat → Int32} {n k j : Nat} (hk : k < (if n = 8 then 7 else n)) (hn : n ≤ 8) (h : j < 1479) : keepA A n (1479 * (k + 1) + j) = A (1479 * ((if n = 8 then k + 1 else k) + 1) + j) := by
  unfold keepA
  split
  · rename_i h8
    rw [if_pos h8] at hk
    simp only [cpA, shA]
    rw [if_neg (by omega), if_pos (by omega)]
    exact congrArg A (by omega)
  · rename_i h8
    rw [if_neg h8] at hk
    simp only [cpA]
    rw [if_neg (by omega)]
theorem keepP_len {P : List aSet} {S : aSet} (h : P.length ≤ 8) : (keepP P S).length = if P.length = 8 then 8 else P.length + 1 := by
  unfold keepP
  split
  · rename_i h8
    rw [List.length_append, List.length_tail, h8]
    rfl
  · rw [List.length_append]
    rfl
/-- a change is kept -/
theorem ri_keep {R : rR} {T : aSt} (h : rInv R T) : rInv (keepR R (tPast T).length) (chg T (tSet T)) := by
  obtain ⟨h1, h2, h3, h4, h5, h6, h7, h8, h9, h10, h11, h12, h13, h14, h15⟩ := h
  have e1 : (keepR R (tPast T).length).2 1 = keepA (R.2 1) (tPast T).length := rfl
  refine ⟨?_, h2, ?_, ?_, ?_, h6, ?_, h8, h9, h10, h11, h12, h13, h14, h15⟩
  · rw [e1]
    exact rowRep_mv h2.1 (fun j hj => by rw [Nat.zero_add]; exact keepA_lo hj) h1
  · show (keepP (tPast T) (tSet T)).length ≤ 8
    rw [keepP_len h3]
    split <;> omega
  · show nI _ = nI (keepP (tPast T) (tSet T)).length
    rw [keepP_len h3]
  · intro k S hk
    rw [e1]
    have hk2 : (keepP (tPast T) (tSet T))[k]? = some S := hk
    by_cases hl : k < (if (tPast T).length = 8 then 7 else (tPast T).length)
    · have hS : (tPast T)[if (tPast T).length = 8 then k + 1 else k]? = some S := by
        unfold keepP at hk2
        split at hk2
        · rename_i h88
          rw [if_pos h88] at hl
          rw [List.getElem?_append_left (by rw [List.length_tail]; omega), List.getElem?_tail] at hk2
          rw [if_pos h88]
          exact hk2
        · rename_i h88
          rw [if_neg h88] at hl
          rw [List.getElem?_append_left hl] at hk2
          rw [if_neg h88]
          exact hk2
      have hr := h5 _ S hS
      exact ⟨rowRep_mv hr.2.1 (fun j hj => keepA_old hl h3 hj) hr.1, hr.2⟩
    · have hlen : k < (keepP (tPast T) (tSet T)).length := by
        by_cases hc : k < (keepP (tPast T) (tSet T)).length
        · exact hc
        · rw [List.getElem?_eq_none (by omega)] at hk2
          exact absurd hk2 (by simp)
      rw [keepP_len h3] at hlen
      have hkk : k = (if (tPast T).length = 8 then 7 else (tPast T).length) := by
        by_cases h88 : (tPast T).length = 8
        · rw [if_pos h88] at hlen hl ⊢; omega
        · rw [if_neg h88] at hlen hl ⊢; omega
      have hS : S = tSet T := by
        unfold keepP at hk2
        split at hk2
        · rename_i h88
          rw [if_pos h88] at hkk
          rw [List.getElem?_append_right (by rw [List.length_tail]; omega), List.length_tail, show k - ((tPast T).length - 1) = 0 by omega] at hk2
          exact (Option.some.inj hk2).symm
        · rename_i h88
          rw [if_neg h88] at hkk
          rw [List.getElem?_append_right (by omega), show k - (tPast T).length = 0 by omega] at hk2
          exact (Option.some.inj hk2).symm
      subst hS
      rw [hkk]
      exact ⟨rowRep_mv h2.1 (fun j hj => keepA_new hj) h1, h2⟩
  · intro S hS
    have hr := h7 S hS
    rw [e1]
    exact ⟨rowRep_mv hr.2.1 (fun j hj => keepA_9 h3 (by omega)) hr.1, hr.2⟩
/-- another present setup -/
theorem ri_set {R : rR} {T : aSt} {S : aSet} {A' : Nat → Int32} (h : rInv R T) (hA : ∀ j, 1479 ≤ j → A' j = R.2 1 j) (hr : rowRep A' 0 S) (hS : setG S) : rInv (rA R 1 A') (S, T.2) := by
  obtain ⟨h1, h2, h3, h4, h5, h6, h7, h8, h9, h10, h11, h12, h13, h14, h15⟩ := h
  refine ⟨hr, hS, h3, h4, fun k S' hk => ?_, h6, fun S' hS' => ?_, h8, h9, h10, h11, h12, h13, h14, h15⟩
  · have h := h5 k S' hk
    exact ⟨rowRep_mv h.2.1 (fun j hj => hA _ (by omega)) h.1, h.2⟩
  · have h := h7 S' hS'
    exact ⟨rowRep_mv h.2.1 (fun j hj => hA _ (by omega)) h.1, h.2⟩
/-- the contract of a call: thrown, answer, state -/
def ROp (y : jY) (d : Nat) (args : List Value) (op : aSt → aAns) : Prop := ∀ R T, rInv R T → RMet y d args R (fun v R' => v = some (.int (op T).2.1) ∧ R'.1 0 = nI (op T).1 ∧ rInv R' (op T).2.2)
theorem ro_ans {R' : rR} {T T' : aSt} {op : aSt → aAns} {c : Nat} {x : Int32} (e : op T = (c, x, T')) (h0 : R'.1 0 = nI c) (hi : rInv R' T') : some (Value.int x) = some (.int (op T).2.1) ∧ R'.1 0 = nI (op T).1 ∧ rInv R' (op T).2.2 := by
  rw [e]
  exact ⟨rfl, h0, hi⟩
theorem toN_nI {n : Nat} (h : n < 2 ^ 31) : toN (nI n) = n := nI_clamp h
theorem ri_thr {R : rR} {T : aSt} {v : Int32} (h : rInv R T) : rInv (rs R 0 v) T := h
theorem rA_rs {R : rR} {k n : Nat} {v : Int32} {f : Nat → Int32} : rA (rs R n v) k f = rs (rA R k f) n v := rfl
