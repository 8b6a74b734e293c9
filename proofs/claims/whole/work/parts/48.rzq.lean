/-- what the making of a letter leaves alone -/
def mFr (R R' : rR) : Prop := (∀ k, k ≠ 28 → k ≠ 29 → R'.1 k = R.1 k) ∧ ∀ k, k ≠ 27 → R'.2 k = R.2 k
theorem mFr_refl {R : rR} : mFr R R := ⟨fun _ _ _ => rfl, fun _ _ => rfl⟩
theorem mFr_trans {R R' R'' : rR} (h : mFr R R') (h2 : mFr R' R'') : mFr R R'' := ⟨fun k a b => (h2.1 k a b).trans (h.1 k a b), fun k a => (h2.2 k a).trans (h.2 k a)⟩
theorem mFr_md {R : rR} {l : List Nat} : mFr R (mdR R l) := ⟨fun _ h _ => if_neg h, fun _ h => if_neg h⟩
theorem mFr_rs {R R' : rR} {v : Int32} (h : mFr R R') : mFr R (rs R' 29 v) := ⟨fun k a b => (if_neg b).trans (h.1 k a b), h.2⟩
theorem mFr_mk {R : rR} {x : Nat × List Nat × Nat} : mFr R (mkR R x) := by
  unfold mkR
  split
  · exact mFr_md
  · exact mFr_rs mFr_md
theorem ri_mfr {R R' : rR} {T : aSt} (h : rInv R T) (hf : mFr R R') : rInv R' T :=
  ri_fr h (hf.1 2 (by decide) (by decide)) (hf.1 3 (by decide) (by decide)) (hf.1 5 (by decide) (by decide)) (hf.1 6 (by decide) (by decide)) (hf.1 30 (by decide) (by decide)) (hf.2 1 (by decide)) (hf.2 4 (by decide)) (hf.2 31 (by decide)) (hf.2 32 (by decide)) (hf.2 33 (by decide)) (hf.2 34 (by decide)) (hf.2 35 (by decide))
/-- the template is read -/
def rdW (R : rR) (S : aSet) : Prop := rPre R S ∧ setG S ∧ lnR R (sTmpl S) ∧ prW R (pEnd (sTmpl S)) ∧ (pIts (pEnd (sTmpl S))).length ≤ 120 ∧ (pCos (pEnd (sTmpl S))).length ≤ 120
theorem rd_fr {R R' : rR} {S : aSet} (h : rdW R S) (f11 : R'.1 11 = R.1 11) (f14 : R'.1 14 = R.1 14) (f15 : R'.1 15 = R.1 15) (f16 : R'.1 16 = R.1 16) (f22 : R'.1 22 = R.1 22) (a1 : R'.2 1 = R.2 1) (a10 : R'.2 10 = R.2 10) (a17 : R'.2 17 = R.2 17) (a18 : R'.2 18 = R.2 18) (a19 : R'.2 19 = R.2 19) (a20 : R'.2 20 = R.2 20) (a21 : R'.2 21 = R.2 21) (a23 : R'.2 23 = R.2 23) (a24 : R'.2 24 = R.2 24) (a25 : R'.2 25 = R.2 25) : rdW R' S := by
  unfold rdW rPre lnR prW itR cdR at *
  rw [f11, f14, f15, f16, f22, a1, a10, a17, a18, a19, a20, a21, a23, a24, a25]
  exact h
theorem rd_mfr {R R' : rR} {S : aSet} (h : rdW R S) (hf : mFr R R') : rdW R' S :=
  rd_fr h (hf.1 11 (by decide) (by decide)) (hf.1 14 (by decide) (by decide)) (hf.1 15 (by decide) (by decide)) (hf.1 16 (by decide) (by decide)) (hf.1 22 (by decide) (by decide)) (hf.2 1 (by decide)) (hf.2 10 (by decide)) (hf.2 17 (by decide)) (hf.2 18 (by decide)) (hf.2 19 (by decide)) (hf.2 20 (by decide)) (hf.2 21 (by decide)) (hf.2 23 (by decide)) (hf.2 24 (by decide)) (hf.2 25 (by decide))
theorem rd_hwt {R : rR} {S : aSet} (h : rdW R S) : ∀ i, i < (pIts (pEnd (sTmpl S))).length → R.2 21 i = nI (iTill (pAtI (pIts (pEnd (sTmpl S))) i)) := fun i hi => h.2.2.2.1.2.2.2.2.2.2.2.2.2.2.2 i hi (by rw [op_end h.2.2.1.2.2.1 h.2.1.2]; exact List.not_mem_nil)
/-- the letter of a record: why it fails, its text, the item where it fails -/
noncomputable def ltrQ (S : aSet) (q : aRec) : Nat × List Nat × Nat := Classical.choose (⟨_, rfl⟩ : ∃ x, mkA S q (sTmpl S) (pIts (pEnd (sTmpl S))) (pCos (pEnd (sTmpl S))) 121 0 [] = x)
theorem ltrQ_eq {S : aSet} {q : aRec} : mkA S q (sTmpl S) (pIts (pEnd (sTmpl S))) (pCos (pEnd (sTmpl S))) 121 0 [] = ltrQ S q := Classical.choose_spec (⟨_, rfl⟩ : ∃ x, mkA S q (sTmpl S) (pIts (pEnd (sTmpl S))) (pCos (pEnd (sTmpl S))) 121 0 [] = x)
noncomputable abbrev ltrA (S : aSet) (r : Nat) : Nat × List Nat × Nat := ltrQ S (sAt S r)
theorem mk_X10 {R : rR} {S : aSet} {r : Nat} (h : rdW R S) (hr : r < (sRecs S).length) : RI jX10_makes 6 [.int (nI r)] R (nI (ltrA S r).1) (mkR R (ltrA S r)) := by
  rw [show ltrA S r = _ from ltrQ_eq.symm]
  exact m_X10_makes h.1 hr h.2.2.2.1 h.2.2.1 (wf_end h.2.1.2) (op_end h.2.2.1.2.2.1 h.2.1.2) (rd_hwt h) h.2.2.2.2.1 h.2.2.2.2.2
/-! what a letter's signs are -/
theorem adrT_ch {S : aSet} {q : aRec} (hq : recOK q) : ∀ f, f ≤ 5 → ∀ c ∈ adrT S q f, c ≤ 126
  | 0, _ => fun c hc => absurd hc List.not_mem_nil
  | f + 1, hf => fun c hc => by
    by_cases h : isLineA S q f = true
    · rw [show adrT S q (f + 1) = (adrT S q f ++ sepT S q f) ++ q.2.2 f from if_pos h] at hc
      rcases List.mem_append.mp hc with hc | hc
      · rcases List.mem_append.mp hc with hc | hc
        · exact adrT_ch hq f (by omega) c hc
        · unfold sepT at hc
          split at hc
          · exact absurd hc List.not_mem_nil
          · rw [List.mem_singleton.mp hc]; decide
      · exact ((hq.2.2 f (by omega)).2 c hc).2
    · rw [show adrT S q (f + 1) = adrT S q f from if_neg h] at hc
      exact adrT_ch hq f (by omega) c hc
theorem sty_le {way k c : Nat} (h : c ≤ 126) : sty way k c ≤ 126 := by unfold sty; split <;> omega
theorem getD_le126 {t : List Nat} {i : Nat} (h : ∀ c ∈ t, c ≤ 126) : t.getD i 0 ≤ 126 := by
  by_cases hi : i < t.length
  · rw [List.getD_eq_getElem?_getD, List.getElem?_eq_getElem hi]
    exact h _ (List.getElem_mem hi)
  · rw [List.getD_eq_getElem?_getD, List.getElem?_eq_none (by omega)]
    exact Nat.zero_le _
theorem styT_ch {way : Nat} {t : List Nat} (h : ∀ c ∈ t, c ≤ 126) : ∀ k, ∀ c ∈ styT way t k, c ≤ 126
  | 0 => fun c hc => absurd hc List.not_mem_nil
  | k + 1 => fun c hc => by
    rcases List.mem_append.mp hc with hc | hc
    · exact styT_ch h k c hc
    · rw [List.mem_singleton.mp hc]; exact sty_le (getD_le126 h)
theorem subT_ch {L : List Nat} {a : Nat} (h : ∀ c ∈ L, 32 ≤ c ∧ c ≤ 126) : ∀ k, ∀ c ∈ subT L a k, c ≤ 126
  | 0 => fun c hc => absurd hc List.not_mem_nil
  | k + 1 => fun c hc => by
    rcases List.mem_append.mp hc with hc | hc
    · exact subT_ch h k c hc
    · rw [List.mem_singleton.mp hc]; exact pC_le h
theorem numT_ch {n : Nat} (h : n < 100) : ∀ c ∈ numT n, c ≤ 126 := by
  intro c hc
  unfold numT at hc
  split at hc
  · rcases List.mem_cons.mp hc with rfl | hc
    · omega
    · rw [List.mem_singleton.mp hc]; omega
  · rw [List.mem_singleton.mp hc]; omega
theorem gvT_ch {S : aSet} {q : aRec} {L t : List Nat} {x : pIt} (hq : recOK q) (hL : ∀ c ∈ L, 32 ≤ c ∧ c ≤ 126) (h0 : iKind x = 0 → iOne x = pC L (iPlace x)) (h3 : iKind x = 3 → iOne x ≤ 4) (h : gvT S q L x = some t) : ∀ c ∈ t, c ≤ 126 := by
  unfold gvT at h
  split at h
  · cases h
    intro c hc
    rw [List.mem_singleton.mp hc, h0 (by assumption)]
    exact pC_le hL
  · split at h
    · cases h
      exact numT_ch hq.2.1
    · split at h
      · split at h
        · cases h
        · cases h
          exact adrT_ch hq 5 (Nat.le_refl _)
      · split at h
        · split at h
          · cases h
          · cases h
            exact styT_ch (fun c hc => ((hq.2.2 _ (by have := h3 (by assumption); omega)).2 c hc).2) _
        · cases h
          exact subT_ch hL _
theorem gvC_3 {S : aSet} {l : List Nat} {o : Option (List Nat)} (h : ¬ (gvC S l o).1 = 0) : 3 ≤ (gvC S l o).1 := by
  cases o with
  | none => exact Nat.le_refl 3
  | some t =>
    unfold gvC at *
    simp only at *
    split at h
    · exact absurd rfl h
    · rename_i h2
      rw [if_neg h2]
      exact Nat.le_succ 3
theorem gvC_ch {S : aSet} {l : List Nat} {o : Option (List Nat)} (hl : ∀ c ∈ l, c ≤ 126) (ho : ∀ t, o = some t → ∀ c ∈ t, c ≤ 126) : ∀ c ∈ (gvC S l o).2, c ≤ 126 := by
  cases o with
  | none => exact hl
  | some t =>
    unfold gvC
    simp only
    split
    · intro c hc
      exact (List.mem_append.mp hc).elim (hl c) (ho t rfl c)
    · exact hl
theorem mkA_b {S : aSet} {q : aRec} {L : List Nat} {its : List pIt} {cos : List pCo} (hS : sLim S ≤ 200) (hg : ∀ i, i < its.length → ∀ t, gvT S q L (pAtI its i) = some t → ∀ c ∈ t, c ≤ 126) : ∀ (f i : Nat) (l : List Nat), l.length ≤ 200 → (∀ c ∈ l, c ≤ 126) → (mkA S q L its cos f i l).1 ≤ 4 ∧ (mkA S q L its cos f i l).2.1.length ≤ 200 ∧ (∀ c ∈ (mkA S q L its cos f i l).2.1, c ≤ 126) ∧ (¬ (mkA S q L its cos f i l).1 = 0 → 3 ≤ (mkA S q L its cos f i l).1 ∧ (mkA S q L its cos f i l).2.2 < its.length)
  | 0, i, l, hl, hc => ⟨Nat.zero_le _, hl, hc, fun h => absurd rfl h⟩
  | f + 1, i, l, hl, hc => by
    by_cases hi : i < its.length
    · by_cases h5 : iKind (pAtI its i) = 5
      · rw [mk_br (Nat.succ_pos _) hi h5 rfl]
        exact mkA_b hS hg f _ l hl hc
      · by_cases h0 : (gvC S l (gvT S q L (pAtI its i))).1 = 0
        · rw [mk_ok (Nat.succ_pos _) hi h5 h0]
          exact mkA_b hS hg f _ _ (gvC_le hl hS).1 (gvC_ch hc (hg i hi))
        · rw [mk_bad (Nat.succ_pos _) hi h5 h0]
          exact ⟨(gvC_le hl hS).2, (gvC_le hl hS).1, gvC_ch hc (hg i hi), fun _ => ⟨gvC_3 h0, hi⟩⟩
    · rw [mk_end (by omega)]
      exact ⟨Nat.zero_le _, hl, hc, fun h => absurd rfl h⟩
theorem ltrN_b {S : aSet} {q : aRec} {x : Nat × List Nat × Nat} (hS : setG S) (hq : recOK q) (n : Nat) (hx : mkA S q (sTmpl S) (pIts (pEnd (sTmpl S))) (pCos (pEnd (sTmpl S))) n 0 [] = x) : x.1 ≤ 4 ∧ x.2.1.length ≤ 200 ∧ (∀ c ∈ x.2.1, c ≤ 126) ∧ (¬ x.1 = 0 → 3 ≤ x.1 ∧ x.2.2 < (pIts (pEnd (sTmpl S))).length) := by
  subst hx
  exact mkA_b hS.1.2.2.2.2.1.2 (fun i hi t ht => gvT_ch hq hS.1.2.2.2.2.2.2.1.2 (fun e => ((wf_end hS.2).1 i hi).2.2.1 e) (fun e => (((wf_end hS.2).1 i hi).2.2.2.1 e).1) ht) n 0 [] (Nat.zero_le _) (fun c hc => absurd hc List.not_mem_nil)
theorem ltrQ_b {S : aSet} {q : aRec} (hS : setG S) (hq : recOK q) : (ltrQ S q).1 ≤ 4 ∧ (ltrQ S q).2.1.length ≤ 200 ∧ (∀ c ∈ (ltrQ S q).2.1, c ≤ 126) ∧ (¬ (ltrQ S q).1 = 0 → 3 ≤ (ltrQ S q).1 ∧ (ltrQ S q).2.2 < (pIts (pEnd (sTmpl S))).length) :=
  ltrN_b (x := ltrQ S q) hS hq 121 ltrQ_eq
theorem ltr_b {S : aSet} {r : Nat} (hS : setG S) (hr : r < (sRecs S).length) : (ltrA S r).1 ≤ 4 ∧ (ltrA S r).2.1.length ≤ 200 ∧ (∀ c ∈ (ltrA S r).2.1, c ≤ 126) ∧ (¬ (ltrA S r).1 = 0 → 3 ≤ (ltrA S r).1 ∧ (ltrA S r).2.2 < (pIts (pEnd (sTmpl S))).length) := ltrQ_b hS (setG_at hS hr)
/-- the text of the letter stands in the row -/
def ltR (R : rR) (l : List Nat) : Prop := R.1 28 = nI l.length ∧ ∀ i, i < l.length → R.2 27 i = nI (l.getD i 0)
theorem ltR_md {R : rR} {l : List Nat} : ltR (mdR R l) l := ⟨rfl, fun i hi => by rw [show (mdR R l).2 27 = lnA (R.2 27) l l.length from rA_at (R := R) (k := 27) (f := lnA (R.2 27) l l.length)]; exact if_pos hi⟩
theorem mkR_0 {R : rR} {x : Nat × List Nat × Nat} (h : x.1 = 0) : mkR R x = mdR R x.2.1 := if_pos h
theorem mkR_n {R : rR} {x : Nat × List Nat × Nat} (h : ¬ x.1 = 0) : mkR R x = rs (mdR R x.2.1) 29 (nI x.2.2) := if_neg h
/-- the reason of a record in a run -/
noncomputable def rsnA (S : aSet) (r p : Nat) (b : Bool) : Nat := if outA S (sAt S r) = true then 1 else if optZ (keptA S r p b) = (r : Int) then (ltrA S r).1 else 2
def rsP (R R' : rR) (S : aSet) (r p : Nat) (b : Bool) : Prop := mFr R R' ∧ (rsnA S r p b = 0 → ltR R' (ltrA S r).2.1) ∧ (3 ≤ rsnA S r p b → R'.1 29 = nI (ltrA S r).2.2)
section RN
variable {S : aSet} {r p : Nat} {b : Bool} {R : rR}
theorem rn_1 (h : outA S (sAt S r) = true) : rsnA S r p b = 1 := if_pos h
theorem rn_2 (h : ¬ outA S (sAt S r) = true) (h2 : ¬ optZ (keptA S r p b) = (r : Int)) : rsnA S r p b = 2 := (if_neg h).trans (if_neg h2)
theorem rn_m (h : ¬ outA S (sAt S r) = true) (h2 : optZ (keptA S r p b) = (r : Int)) : rsnA S r p b = (ltrA S r).1 := (if_neg h).trans (if_pos h2)
theorem rsP_no {n : Nat} (h : rsnA S r p b = n) (h2 : n = 1 ∨ n = 2) : rsP R R S r p b := ⟨mFr_refl, fun e => by omega, fun e => by omega⟩
theorem rsP_mk (h : rsnA S r p b = (ltrA S r).1) : rsP R (mkR R (ltrA S r)) S r p b := ⟨mFr_mk, fun e => by rw [mkR_0 (h.symm.trans e)]; exact ltR_md, fun e => by rw [mkR_n (by rw [← h]; omega)]; rfl⟩
theorem rsn_b (hS : setG S) (hr : r < (sRecs S).length) : rsnA S r p b ≤ 4 := by
  have h := (ltr_b hS hr).1
  unfold rsnA
  split
  · omega
  · split
    · exact h
    · omega
end RN
set_option maxHeartbeats 4000000 in
set_option maxRecDepth 100000 in
theorem m_X10_reasonOf {R : rR} {S : aSet} {r p : Nat} {b : Bool} (h : rdW R S) (hr : r < (sRecs S).length) (hpp : p ≤ 2) : RMet jX10_reasonOf 7 [.int (nI r), .int (nI p), .int (jb (b = true))] (R) (fun v R' => v = some (.int (nI (rsnA S r p b))) ∧ rsP R R' S r p b) := by
  intro G o M0 hs hBo
  refine jMet_of [some (.ref o), some (.int (nI r)), some (.int (nI p)), some (.int (jb (b = true)))] (by decide) rfl (Nat.le_of_ble_eq_true rfl) rfl hs ?_
  intro C hC9 hG
  have hC := hC9.z
  have hB : jB C ≤ o := by rw [jB, hG]; exact hBo
  have hz9 := optZ_zB (x := keptA S r p b) (n := (sRecs S).length) (fun m hm => keptTo_lt (Nat.le_refl _) hm)
  have h20 := rp_n20 h.1
  refine j_aload_n hC dX10_reasonOf_0 rfl (jrf_ref _) ?_
  refine j_iload_n hC dX10_reasonOf_1 rfl ?_
  refine r_ci1 hC kv_X10_243 dX10_reasonOf_2 (m_X10_isOut h.1 hr) hB rfl (by decide) (Nat.le_of_ble_eq_true rfl) ?_
  refine jb_if_eq (tgt := 12) hC dX10_reasonOf_5 (by decide) (fun c1 => ?_) (fun c1 => ?_)
  · refine j_aload_n hC dX10_reasonOf_12 rfl (jrf_ref _) ?_
    refine j_iload_n hC dX10_reasonOf_13 rfl ?_
    refine j_iload_n hC dX10_reasonOf_14 rfl ?_
    refine j_iload_n hC dX10_reasonOf_15 rfl ?_
    refine r_ci3 hC kv_X10_249 dX10_reasonOf_16 (m_X10_keptOf h.1 hr hpp) hB rfl (by decide) (Nat.le_of_ble_eq_true rfl) ?_
    refine j_iload_n hC dX10_reasonOf_19 rfl ?_
    refine z_icmp_eq (a := (optZ (keptA S r p b))) (b := ((r : Nat) : Int)) (tgt := 27) hC dX10_reasonOf_20 (by decide) (by unfold zB; omega) (by unfold zB; omega) (fun c2 => ?_) (fun c2 => ?_)
    · refine j_aload_n hC dX10_reasonOf_27 rfl (jrf_ref _) ?_
      refine j_iload_n hC dX10_reasonOf_28 rfl ?_
      refine r_ci1 hC kv_X10_253 dX10_reasonOf_29 (mk_X10 h hr) hB rfl (by decide) (Nat.le_of_ble_eq_true rfl) ?_
      exact j_iret hC9 rfl rfl dX10_reasonOf_32 ⟨(mkR R (ltrA S r)), ⟨jv (by rw [rn_m (by assumption) (by assumption)]), rsP_mk (rn_m (by assumption) (by assumption))⟩, rfl⟩
    · refine j_iconst (v := nI 2) hC dX10_reasonOf_23 (by decide) ?_
      refine j_goto (tgt := 32) hC dX10_reasonOf_24 (by decide) ?_
      exact j_iret hC9 rfl rfl dX10_reasonOf_32 ⟨R, ⟨jv (by rw [rn_2 (by assumption) (by assumption)]), rsP_no (rn_2 (by assumption) (by assumption)) (by decide)⟩, rfl⟩
  · refine j_iconst (v := nI 1) hC dX10_reasonOf_8 (by decide) ?_
    refine j_goto (tgt := 32) hC dX10_reasonOf_9 (by decide) ?_
    exact j_iret hC9 rfl rfl dX10_reasonOf_32 ⟨R, ⟨jv (by rw [rn_1 (by assumption)]), rsP_no (rn_1 (by assumption)) (by decide)⟩, rfl⟩
noncomputable def opPreview (r : Int32) (T : aSt) : aAns :=
  if jin r (sRecs (tSet T)).length = true then (0, if (ltrA (tSet T) (toN r)).1 = 0 then nI (ltrA (tSet T) (toN r)).2.1.length else zI (-((ltrA (tSet T) (toN r)).1 : Int)), T)
  else (1, 0, T)
section OP
variable {T : aSt} {r : Int32} {a : Nat}
theorem prv_1 (h : ¬ jin r (sRecs (tSet T)).length = true) : opPreview r T = (1, nI 0, T) := if_neg h
theorem prv_c (ha : a < (sRecs (tSet T)).length) (h20 : (sRecs (tSet T)).length ≤ 20) : opPreview (nI a) T = (0, if (ltrA (tSet T) a).1 = 0 then nI (ltrA (tSet T) a).2.1.length else zI (-((ltrA (tSet T) a).1 : Int)), T) := by
  rw [opPreview, if_pos (by rw [jin_nI (by omega)]; exact decide_eq_true ha), toN_nI (by omega)]
theorem prv_0 (ha : a < (sRecs (tSet T)).length) (h20 : (sRecs (tSet T)).length ≤ 20) (h : (ltrA (tSet T) a).1 = 0) : opPreview (nI a) T = (0, nI (ltrA (tSet T) a).2.1.length, T) := by
  rw [prv_c ha h20, if_pos h]
theorem prv_n (ha : a < (sRecs (tSet T)).length) (h20 : (sRecs (tSet T)).length ≤ 20) (h : ¬ (ltrA (tSet T) a).1 = 0) : opPreview (nI a) T = (0, zI (-((ltrA (tSet T) a).1 : Int)), T) := by
  rw [prv_c ha h20, if_neg h]
end OP
set_option maxHeartbeats 4000000 in
set_option maxRecDepth 100000 in
theorem o_X10_preview {r : Int32} : ROp jX10_preview 18 [.int r] (opPreview r) := by
  intro R T hi
  obtain ⟨S, P, V, b, e, u⟩ := T
  intro G o M0 hs hBo
  refine jMet_of [some (.ref o), some (.int r), none] (by decide) rfl (Nat.le_of_ble_eq_true rfl) rfl hs ?_
  intro C hC9 hG
  have hC := hC9.z
  have hB : jB C ≤ o := by rw [jB, hG]; exact hBo
  have hp : rPre R S := ri_pre hi
  have h20 := rp_n20 hp
  have hP8 : P.length ≤ 8 := ri_pn hi
  have hb120 : b.length ≤ 120 := ri_bn hi
  refine j_aload_n hC dX10_preview_0 rfl (jrf_ref _) ?_
  refine j_aload_n hC dX10_preview_1 rfl (jrf_ref _) ?_
  refine j_iload_n hC dX10_preview_2 rfl ?_
  refine r_ci1 hC kv_X10_102 dX10_preview_3 (m_X10_isRecord hp) hB rfl (by decide) (Nat.le_of_ble_eq_true rfl) ?_
  refine jb_if_eq (tgt := 13) hC dX10_preview_6 (by decide) (fun c1 => ?_) (fun c1 => ?_)
  · refine j_iconst (v := nI 1) hC dX10_preview_13 (by decide) ?_
    refine r_put hC kp_X10_78 dX10_preview_14 hB rfl rfl rF_set_0 ?_
    refine j_aload_n hC dX10_preview_17 rfl (jrf_ref _) ?_
    refine r_getN (x := nI (1)) hC kf_X10_78 dX10_preview_18 rfl (rfl) ?_
    refine n_if_eq (tgt := 26) hC dX10_preview_21 (by decide) (by omega) (fun c2 => ?_) (fun c2 => ?_)
    · exact absurd c2 (by decide)
    · refine j_iconst (v := nI 0) hC dX10_preview_24 (by decide) ?_
      have e9 : opPreview r (S, P, V, b, e, u) = (1, nI (0), (S, P, V, b, e, u)) := prv_1 (by assumption)
      exact j_iret hC9 rfl rfl dX10_preview_25 ⟨(rs R 0 (nI (1))), ro_ans e9 (rfl) (ri_thr hi), rfl⟩
  · refine j_iconst (v := nI 0) hC dX10_preview_9 (by decide) ?_
    refine j_goto (tgt := 14) hC dX10_preview_10 (by decide) ?_
    refine r_put hC kp_X10_78 dX10_preview_14 hB rfl rfl rF_set_0 ?_
    refine j_aload_n hC dX10_preview_17 rfl (jrf_ref _) ?_
    refine r_getN (x := nI (0)) hC kf_X10_78 dX10_preview_18 rfl (rfl) ?_
    refine n_if_eq (tgt := 26) hC dX10_preview_21 (by decide) (by omega) (fun c3 => ?_) (fun c3 => ?_)
    · obtain ⟨r9, hr9, rfl⟩ := jin_of (by assumption : jin r (sRecs S).length = true) (by omega)
      refine j_aload_n hC dX10_preview_26 rfl (jrf_ref _) ?_
      refine r_call hC kv_X10_199 dX10_preview_27 (m_X10_readsTemplate (R := (rs R 0 (nI (0)))) (S := S) hp) rfl rfl hB rfl (by decide) (Nat.le_of_ble_eq_true rfl) ?_
      intro v9 R9 h9
      obtain ⟨rfl, hp9, hf9⟩ := h9
      have hok9 : pOK (sTmpl S) = true := (ri_ok hi).2
      have hwk : prW R9 (pEnd (sTmpl S)) := hp9.2.2.2.2 hok9
      have hwf := wf_end hok9
      have hop9 := op_end hp9.1.2.2.1 hok9
      have hwt : ∀ i, i < (pIts (pEnd (sTmpl S))).length → R9.2 21 i = nI (iTill (pAtI (pIts (pEnd (sTmpl S))) (i))) := fun i hi => hwk.2.2.2.2.2.2.2.2.2.2.2 i hi (by rw [hop9]; exact List.not_mem_nil)
      have hil9 := hwk.2.2.2.2.2.2.1
      have hcl9 := hwk.2.2.2.2.2.2.2.1
      have hat9 := hp9.2.2.2.1
      have hL129 := hp9.1.2.2.1
      have hi1 : rInv R9 (S, P, V, b, e, u) := ri_pfs (R := rs R 0 (nI 0)) hi hf9
      have hp1 : rPre R9 S := ri_pre hi1
      have hrd : rdW R9 S := ⟨hp1, ri_ok hi, hp9.1, hwk, by omega, by omega⟩
      refine j_aload_n hC dX10_preview_30 rfl (jrf_ref _) ?_
      refine j_iload_n hC dX10_preview_31 rfl ?_
      refine r_ci1 hC kv_X10_253 dX10_preview_32 (mk_X10 (R := R9) (S := S) (r := r9) hrd (by assumption)) hB rfl (by decide) (Nat.le_of_ble_eq_true rfl) ?_
      have hlb := ltr_b (S := S) (r := r9) (ri_ok hi) hr9
      refine j_istore_n2 hC dX10_preview_35 (by decide) rfl ?_
      refine j_iload_n hC dX10_preview_36 rfl ?_
      refine n_if_ne (tgt := 47) hC dX10_preview_37 (by decide) (by omega) (fun c4 => ?_) (fun c4 => ?_)
      · refine j_iload_n hC dX10_preview_47 rfl ?_
        refine z_ineg (a := (((ltrA S r9).1 : Nat) : Int)) hC dX10_preview_48 ?_
        have e9 : opPreview (nI r9) (S, P, V, b, e, u) = (0, zI ((-(((ltrA S r9).1 : Nat) : Int))), (S, P, V, b, e, u)) := prv_n (T := (S, P, V, b, e, u)) hr9 h20 (by assumption)
        exact j_iret hC9 rfl rfl dX10_preview_49 ⟨(mkR R9 (ltrA S r9)), ro_ans e9 ((mFr_mk.1 0 (by decide) (by decide)).trans (hf9.1 0 (by decide) (by decide) (by decide) (by decide) (by decide) (by decide) (by decide))) (ri_mfr hi1 mFr_mk), rfl⟩
      · have h28 : (mkR R9 (ltrA S r9)).1 28 = nI (ltrA S r9).2.1.length := by rw [mkR_0 (by assumption)]; rfl
        refine j_aload_n hC dX10_preview_40 rfl (jrf_ref _) ?_
        refine r_getN (x := nI ((ltrA S r9).2.1.length)) hC kf_X10_215 dX10_preview_41 rfl (h28) ?_
        refine j_goto (tgt := 49) hC dX10_preview_44 (by decide) ?_
        have e9 : opPreview (nI r9) (S, P, V, b, e, u) = (0, nI ((ltrA S r9).2.1.length), (S, P, V, b, e, u)) := prv_0 (T := (S, P, V, b, e, u)) hr9 h20 (by assumption)
        exact j_iret hC9 rfl rfl dX10_preview_49 ⟨(mkR R9 (ltrA S r9)), ro_ans e9 ((mFr_mk.1 0 (by decide) (by decide)).trans (hf9.1 0 (by decide) (by decide) (by decide) (by decide) (by decide) (by decide) (by decide))) (ri_mfr hi1 mFr_mk), rfl⟩
    · exact absurd c3 (by decide)
