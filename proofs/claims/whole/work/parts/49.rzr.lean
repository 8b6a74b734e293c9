/-- whether the brackets among the first n items in which item k is are all met -/
def inW (its : List pIt) (k j : Nat) : Bool := decide (iKind (pAtI its j) = 5) && (decide (j = k) || decide (k < iTill (pAtI its j)))
def cntB (q : aRec) (its : List pIt) (cos : List pCo) (k : Nat) : Nat → Bool
  | 0 => true
  | n + 1 => cntB q its cos k n && (!(inW its k n) || cMet q cos (pAtI its n))
def opCounts (r i : Int32) (T : aSt) : aAns :=
  if jin r (sRecs (tSet T)).length = true then
    if jin i (pIts (pEnd (sTmpl (tSet T)))).length = true then (0, jb (cntB (sAt (tSet T) (toN r)) (pIts (pEnd (sTmpl (tSet T)))) (pCos (pEnd (sTmpl (tSet T)))) (toN i) (toN i + 1) = true), T) else (2, 0, T)
  else (1, 0, T)
section CU
variable {q : aRec} {its : List pIt} {cos : List pCo} {k n : Nat} {b : Bool} {T : aSt} {r i : Int32} {a j : Nat}
theorem inW_iff : inW its k n = true ↔ iKind (pAtI its n) = 5 ∧ (n = k ∨ k < iTill (pAtI its n)) := by
  rw [inW, Bool.and_eq_true, Bool.or_eq_true, decide_eq_true_eq, decide_eq_true_eq, decide_eq_true_eq]
theorem cu_no (h : ¬ (iKind (pAtI its n) = 5 ∧ (n = k ∨ k < iTill (pAtI its n)))) (hb : b = cntB q its cos k n) : b = cntB q its cos k (n + 1) := by
  have e : inW its k n = false := by
    cases h2 : inW its k n with
    | false => rfl
    | true => exact absurd (inW_iff.mp h2) h
  rw [cntB, e, ← hb]
  cases b <;> rfl
theorem cu_yes (h : iKind (pAtI its n) = 5 ∧ (n = k ∨ k < iTill (pAtI its n))) (hb : true = cntB q its cos k n) : cMet q cos (pAtI its n) = cntB q its cos k (n + 1) := by
  rw [cntB, inW_iff.mpr h, ← hb]
  rfl
theorem cu_f (h : cntB q its cos k n = false) : ∀ {m : Nat}, n ≤ m → cntB q its cos k m = false
  | 0, hm => by rw [← show n = 0 by omega]; exact h
  | m + 1, hm => by
    by_cases e : n = m + 1
    · rw [← e]; exact h
    · rw [cntB, cu_f h (show n ≤ m by omega)]
      rfl
theorem cu_end (hb : b = cntB q its cos k n) (hn : n ≤ k + 1) (h : k + 1 ≤ n ∨ ¬ b = true) : b = cntB q its cos k (k + 1) := by
  by_cases e : n = k + 1
  · rw [← e]; exact hb
  · have hf : b = false := by
      cases h9 : b with
      | false => rfl
      | true => exact absurd h9 (h.elim (fun h => absurd h (by omega)) id)
    rw [hf, cu_f (hb.symm.trans hf) hn]
theorem cnt_1 (h : ¬ jin r (sRecs (tSet T)).length = true) : opCounts r i T = (1, nI 0, T) := if_neg h
theorem cnt_2 (h : jin r (sRecs (tSet T)).length = true) (h2 : ¬ jin i (pIts (pEnd (sTmpl (tSet T)))).length = true) : opCounts r i T = (2, nI 0, T) := (if_pos h).trans (if_neg h2)
theorem cnt_0 (ha : a < (sRecs (tSet T)).length) (h20 : (sRecs (tSet T)).length ≤ 20) (hj : j < (pIts (pEnd (sTmpl (tSet T)))).length) (hl : (pIts (pEnd (sTmpl (tSet T)))).length ≤ 120) (hb : b = cntB (sAt (tSet T) a) (pIts (pEnd (sTmpl (tSet T)))) (pCos (pEnd (sTmpl (tSet T)))) j (j + 1)) : opCounts (nI a) (nI j) T = (0, jb (b = true), T) := by
  rw [opCounts, if_pos (by rw [jin_nI (by omega)]; exact decide_eq_true ha), if_pos (by rw [jin_nI (by omega)]; exact decide_eq_true hj), toN_nI (by omega), toN_nI (by omega), hb]
/-- the policy of a run in the opposite order -/
def othP (p : Nat) : Nat := if p = 2 then 2 else 1 - p
noncomputable def ordB (S : aSet) : Nat → Bool
  | 0 => true
  | n + 1 => ordB S n && decide (rsnA S n (sPol S) false = rsnA S n (othP (sPol S)) true)
theorem ord_t {S : aSet} (h : ordB S n = true) (h2 : rsnA S n (sPol S) false = rsnA S n (othP (sPol S)) true) : ordB S (n + 1) = true := by
  rw [ordB, h, decide_eq_true h2]
  rfl
theorem ord_f {S : aSet} (h : ¬ ordB S n = true ∨ ¬ rsnA S n (sPol S) false = rsnA S n (othP (sPol S)) true) : ¬ ordB S (n + 1) = true := by
  rw [ordB, Bool.and_eq_true, decide_eq_true_eq]
  exact fun e => h.elim (fun h => h e.1) (fun h => h e.2)
noncomputable def opFree (T : aSt) : aAns := (0, jb (ordB (tSet T) (sRecs (tSet T)).length = true), T)
end CU
set_option maxHeartbeats 4000000 in
set_option maxRecDepth 100000 in
theorem o_X10_counts {r i : Int32} : ROp jX10_counts 18 [.int r, .int i] (opCounts r i) := by
  intro R T hi
  obtain ⟨S, P, V, b, e, u⟩ := T
  intro G o M0 hs hBo
  refine jMet_of [some (.ref o), some (.int r), some (.int i), none, none, none] (by decide) rfl (Nat.le_of_ble_eq_true rfl) rfl hs ?_
  intro C hC9 hG
  have hC := hC9.z
  have hB : jB C ≤ o := by rw [jB, hG]; exact hBo
  have hp : rPre R S := ri_pre hi
  have h20 := rp_n20 hp
  have hP8 : P.length ≤ 8 := ri_pn hi
  have hb120 : b.length ≤ 120 := ri_bn hi
  refine j_aload_n hC dX10_counts_0 rfl (jrf_ref _) ?_
  refine r_call hC kv_X10_199 dX10_counts_1 (m_X10_readsTemplate (R := R) (S := S) hp) rfl rfl hB rfl (by decide) (Nat.le_of_ble_eq_true rfl) ?_
  intro v9 R9 h9
  obtain ⟨rfl, hp9, hf9⟩ := h9
  have hok9 : pOK (sTmpl S) = true := (ri_ok hi).2
  have hwk : prW R9 (pEnd (sTmpl S)) := hp9.2.2.2.2 hok9
  have hwf := wf_end hok9
  have hop9 := op_end hp9.1.2.2.1 hok9
  have hwt : ∀ i, i < (pIts (pEnd (sTmpl S))).length → R9.2 21 i = nI (iTill (pAtI (pIts (pEnd (sTmpl S))) (i))) := fun i hi => hwk.2.2.2.2.2.2.2.2.2.2.2 i hi (by rw [hop9]; exact List.not_mem_nil)
  have hil9 := hwk.2.2.2.2.2.2.1
  have hcl9 := hwk.2.2.2.2.2.2.2.1
  have hat9 := hp9.2.2.2.1
  have hL129 := hp9.1.2.2.1
  have hi1 : rInv R9 (S, P, V, b, e, u) := ri_pfs (R := R) hi hf9
  have hp1 : rPre R9 S := ri_pre hi1
  have hrd : rdW R9 S := ⟨hp1, ri_ok hi, hp9.1, hwk, by omega, by omega⟩
  have hi120 : (pIts (pEnd (sTmpl S))).length ≤ 120 := by omega
  refine j_aload_n hC dX10_counts_4 rfl (jrf_ref _) ?_
  refine j_aload_n hC dX10_counts_5 rfl (jrf_ref _) ?_
  refine j_iload_n hC dX10_counts_6 rfl ?_
  refine r_ci1 hC kv_X10_102 dX10_counts_7 (m_X10_isRecord hp1) hB rfl (by decide) (Nat.le_of_ble_eq_true rfl) ?_
  refine jb_if_ne (tgt := 17) hC dX10_counts_10 (by decide) (fun c1 => ?_) (fun c1 => ?_)
  · refine j_iload_n hC dX10_counts_17 rfl ?_
    refine j_iconst (v := nI 0) hC dX10_counts_18 (by decide) ?_
    refine j_aload_n hC dX10_counts_19 rfl (jrf_ref _) ?_
    refine r_getN (x := nI ((pIts (pEnd (sTmpl S))).length)) hC kf_X10_162 dX10_counts_20 rfl (hwk.2.2.1) ?_
    refine j_iconst (v := nI 1) hC dX10_counts_23 (by decide) ?_
    refine j_isub hC dX10_counts_24 ?_
    refine s_ci3 hC ks_X10_88 dX10_counts_25 (m_X10_in) rfl (by decide) (Nat.le_of_ble_eq_true rfl) ?_
    refine j_top (jb_inL (n := (pIts (pEnd (sTmpl S))).length) (by omega)) ?_
    refine jb_if_eq (tgt := 35) hC dX10_counts_28 (by decide) (fun c2 => ?_) (fun c2 => ?_)
    · refine j_iconst (v := nI 2) hC dX10_counts_35 (by decide) ?_
      refine r_put hC kp_X10_78 dX10_counts_36 hB rfl rfl rF_set_0 ?_
      refine j_aload_n hC dX10_counts_39 rfl (jrf_ref _) ?_
      refine r_getN (x := nI (2)) hC kf_X10_78 dX10_counts_40 rfl (rfl) ?_
      refine n_if_ne (tgt := 50) hC dX10_counts_43 (by decide) (by omega) (fun c3 => ?_) (fun c3 => ?_)
      · refine j_iconst (v := nI 0) hC dX10_counts_50 (by decide) ?_
        refine j_istore_n3 hC dX10_counts_51 (by decide) rfl ?_
        refine j_iconst (v := nI 0) hC dX10_counts_52 (by decide) ?_
        refine j_istore_4 hC dX10_counts_53 (by decide) rfl ?_
        refine j_iload hC dX10_counts_55 rfl ?_
        refine j_iload_n hC dX10_counts_57 rfl ?_
        refine j_icmp_gt (tgt := 149) hC dX10_counts_58 (by decide) (fun c4 => ?_) (fun c4 => ?_)
        · refine j_iload_n hC dX10_counts_149 rfl ?_
          have e9 : opCounts r i (S, P, V, b, e, u) = (2, nI (0), (S, P, V, b, e, u)) := cnt_2 (by assumption) (by assumption)
          exact j_iret hC9 rfl rfl dX10_counts_150 ⟨(rs R9 0 (nI (2))), ro_ans e9 (rfl) (hi1), rfl⟩
        · refine j_iload_n hC dX10_counts_61 rfl ?_
          refine n_if_eq (tgt := 149) hC dX10_counts_62 (by decide) (by omega) (fun c5 => ?_) (fun c5 => ?_)
          · refine j_iload_n hC dX10_counts_149 rfl ?_
            have e9 : opCounts r i (S, P, V, b, e, u) = (2, nI (0), (S, P, V, b, e, u)) := cnt_2 (by assumption) (by assumption)
            exact j_iret hC9 rfl rfl dX10_counts_150 ⟨(rs R9 0 (nI (2))), ro_ans e9 (rfl) (hi1), rfl⟩
          · exact absurd c5 (by decide)
      · exact absurd c3 (by decide)
    · refine j_iconst (v := nI 0) hC dX10_counts_31 (by decide) ?_
      refine j_goto (tgt := 36) hC dX10_counts_32 (by decide) ?_
      refine r_put hC kp_X10_78 dX10_counts_36 hB rfl rfl rF_set_0 ?_
      refine j_aload_n hC dX10_counts_39 rfl (jrf_ref _) ?_
      refine r_getN (x := nI (0)) hC kf_X10_78 dX10_counts_40 rfl (rfl) ?_
      refine n_if_ne (tgt := 50) hC dX10_counts_43 (by decide) (by omega) (fun c6 => ?_) (fun c6 => ?_)
      · exact absurd c6 (by decide)
      · obtain ⟨r9, hr9, rfl⟩ := jin_of (by assumption : jin r (sRecs S).length = true) (by omega)
        obtain ⟨i9, hi9, rfl⟩ := jin_of (by assumption : jin i (pIts (pEnd (sTmpl S))).length = true) (by omega)
        have htb : ∀ i, i < (pIts (pEnd (sTmpl S))).length → iTill (pAtI (pIts (pEnd (sTmpl S))) (i)) ≤ 121 := fun i hi => by
          have w := hwf.1 i hi
          by_cases e : iKind (pAtI (pIts (pEnd (sTmpl S))) (i)) = 5
          · have := (w.2.2.2.2.2.2.1 e (by rw [hop9]; exact List.not_mem_nil)).2; omega
          · have := w.2.2.2.2.2.2.2.1 e; omega
        refine j_iconst (v := nI 1) hC dX10_counts_46 (by decide) ?_
        refine j_goto (tgt := 51) hC dX10_counts_47 (by decide) ?_
        refine j_top (jb_t1 (p := true = true) rfl) ?_
        refine j_istore_n3 hC dX10_counts_51 (by decide) rfl ?_
        refine j_iconst (v := nI 0) hC dX10_counts_52 (by decide) ?_
        refine j_istore_4 hC dX10_counts_53 (by decide) rfl ?_
        suffices K : ∀ (n9a : Nat) (k : Nat) (z : Bool), i9 + 1 - k < n9a → (k ≤ i9 + 1) → (z = cntB (sAt S r9) (pIts (pEnd (sTmpl S))) (pCos (pEnd (sTmpl S))) i9 k) → J C (rM o M0 ((rs R9 0 (nI (0))))) 0 0 55 [some (.ref o), some (.int (nI (r9))), some (.int (nI (i9))), some (.int (jb (z = true))), some (.int (nI (k))), none] [] from j_R (rfl) (K _ (0) (true) (Nat.lt_succ_self _) (Nat.zero_le _) (rfl))
        intro n9a
        induction n9a with
        | zero => intro k z hm; omega
        | succ n9a iha =>
          intro k z hma hk hb
          refine j_iload hC dX10_counts_55 rfl ?_
          refine j_iload_n hC dX10_counts_57 rfl ?_
          refine n_icmp_gt (tgt := 149) hC dX10_counts_58 (by decide) (by omega) (by omega) (fun c7 => ?_) (fun c7 => ?_)
          · refine j_iload_n hC dX10_counts_149 rfl ?_
            have e9 : opCounts (nI r9) (nI i9) (S, P, V, b, e, u) = (0, jb (z = true), (S, P, V, b, e, u)) := cnt_0 (T := (S, P, V, b, e, u)) hr9 h20 hi9 hi120 (cu_end hb hk (by first | exact Or.inl (by omega) | exact Or.inr (by assumption)))
            exact j_iret hC9 rfl jb_nar dX10_counts_150 ⟨((rs R9 0 (nI (0)))), ro_ans e9 (rfl) (hi1), rfl⟩
          · refine j_iload_n hC dX10_counts_61 rfl ?_
            refine jb_if_eq (tgt := 149) hC dX10_counts_62 (by decide) (fun c8 => ?_) (fun c8 => ?_)
            · refine j_iload_n hC dX10_counts_149 rfl ?_
              have e9 : opCounts (nI r9) (nI i9) (S, P, V, b, e, u) = (0, jb (z = true), (S, P, V, b, e, u)) := cnt_0 (T := (S, P, V, b, e, u)) hr9 h20 hi9 hi120 (cu_end hb hk (by first | exact Or.inl (by omega) | exact Or.inr (by assumption)))
              exact j_iret hC9 rfl jb_nar dX10_counts_150 ⟨((rs R9 0 (nI (0)))), ro_ans e9 (rfl) (hi1), rfl⟩
            · have hx9 := hwf.1 k (by omega)
              have hxk := hx9.1
              have hx6 := hx9.2.2.2.2.2.1
              have htk := htb k (by omega)
              obtain rfl : z = true := by assumption
              refine j_aload_n hC dX10_counts_65 rfl (jrf_ref _) ?_
              refine r_get hC kf_X10_32 dX10_counts_66 rfl ?_
              refine j_iload hC dX10_counts_69 rfl ?_
              refine r_aldN (k := 17) (j := k) (x := nI (iKind (pAtI (pIts (pEnd (sTmpl S))) (k)))) hC dX10_counts_71 (c := 7) (n := 120) (by decide) rfl rfl (by omega) (by decide) ((hwk.2.2.2.2.1 _ (by omega)).1) ?_
              refine j_iconst (v := nI 5) hC dX10_counts_72 (by decide) ?_
              refine n_icmp_ne (tgt := 143) hC dX10_counts_73 (by decide) (by omega) (by omega) (fun c9 => ?_) (fun c9 => ?_)
              · refine j_iinc_4 (v := nI (k + 1)) hC dX10_counts_143 (nI_add _ _) (by decide) rfl ?_
                refine j_goto (tgt := 55) hC dX10_counts_146 (by decide) ?_
                exact j_R (rfl) (iha (k + 1) (true) (by omega) (by omega) (by first | exact cu_no (by omega) hb | exact cu_yes (by omega) hb))
              · refine j_iload hC dX10_counts_76 rfl ?_
                refine j_iload_n hC dX10_counts_78 rfl ?_
                refine n_icmp_ge (tgt := 96) hC dX10_counts_79 (by decide) (by omega) (by omega) (fun c10 => ?_) (fun c10 => ?_)
                · have hk5 : iKind (pAtI (pIts (pEnd (sTmpl S))) (k)) = 5 := by assumption
                  have h6 := hx6 hk5
                  refine j_aload_n hC dX10_counts_96 rfl (jrf_ref _) ?_
                  refine r_get hC kf_X10_38 dX10_counts_97 rfl ?_
                  refine j_iload hC dX10_counts_100 rfl ?_
                  refine r_aldN (k := 19) (j := k) (x := nI (iOne (pAtI (pIts (pEnd (sTmpl S))) (k)))) hC dX10_counts_102 (c := 9) (n := 120) (by decide) rfl rfl (by omega) (by decide) ((hwk.2.2.2.2.1 _ (by omega)).2.2.1) ?_
                  refine j_istore_5 hC dX10_counts_103 (by decide) rfl ?_
                  suffices K : ∀ (n9b : Nat) (m : Nat), iTwo (pAtI (pIts (pEnd (sTmpl S))) (k)) - iOne (pAtI (pIts (pEnd (sTmpl S))) (k)) - m < n9b → (m ≤ iTwo (pAtI (pIts (pEnd (sTmpl S))) (k)) - iOne (pAtI (pIts (pEnd (sTmpl S))) (k))) → J C (rM o M0 ((rs R9 0 (nI (0))))) 0 0 105 [some (.ref o), some (.int (nI (r9))), some (.int (nI (i9))), some (.int (jb (cAll (sAt S r9) (pCos (pEnd (sTmpl S))) (iOne (pAtI (pIts (pEnd (sTmpl S))) (k))) m = true))), some (.int (nI (k))), some (.int (nI (iOne (pAtI (pIts (pEnd (sTmpl S))) (k)) + m)))] [] from j_R (rfl) (K _ (0) (Nat.lt_succ_self _) (Nat.zero_le _))
                  intro n9b
                  induction n9b with
                  | zero => intro m hm; omega
                  | succ n9b ihb =>
                    intro m hmb hm9
                    refine j_iload hC dX10_counts_105 rfl ?_
                    refine j_aload_n hC dX10_counts_107 rfl (jrf_ref _) ?_
                    refine r_get hC kf_X10_41 dX10_counts_108 rfl ?_
                    refine j_iload hC dX10_counts_111 rfl ?_
                    refine r_aldN (k := 20) (j := k) (x := nI (iTwo (pAtI (pIts (pEnd (sTmpl S))) (k)))) hC dX10_counts_113 (c := 10) (n := 120) (by decide) rfl rfl (by omega) (by decide) ((hwk.2.2.2.2.1 _ (by omega)).2.2.2) ?_
                    refine n_icmp_ge (tgt := 143) hC dX10_counts_114 (by decide) (by omega) (by omega) (fun c11 => ?_) (fun c11 => ?_)
                    · have hmm : m = iTwo (pAtI (pIts (pEnd (sTmpl S))) (k)) - iOne (pAtI (pIts (pEnd (sTmpl S))) (k)) := by omega
                      subst hmm
                      refine j_iinc_4 (v := nI (k + 1)) hC dX10_counts_143 (nI_add _ _) (by decide) rfl ?_
                      refine j_goto (tgt := 55) hC dX10_counts_146 (by decide) ?_
                      exact j_R (rfl) (j_L (jle_s (jle_s (jle_s (jle_s (jle_s (jle_n (jle_0))))))) (iha (k + 1) (cMet (sAt S r9) (pCos (pEnd (sTmpl S))) (pAtI (pIts (pEnd (sTmpl S))) (k))) (by omega) (by omega) (by first | exact cu_no (by omega) hb | exact cu_yes (by omega) hb)))
                    · suffices K : J C (rM o M0 (((rs R9 0 (nI (0)))))) 0 0 136 [some (.ref o), some (.int (nI (r9))), some (.int (nI (i9))), some (.int (jb (cAll (sAt S r9) (pCos (pEnd (sTmpl S))) (iOne (pAtI (pIts (pEnd (sTmpl S))) (k))) m = true))), some (.int (nI (k))), some (.int (nI (iOne (pAtI (pIts (pEnd (sTmpl S))) (k)) + m)))] [.int (jb (cAll (sAt S r9) (pCos (pEnd (sTmpl S))) (iOne (pAtI (pIts (pEnd (sTmpl S))) (k))) (m + 1) = true))] by
                        refine j_iload_n hC dX10_counts_117 rfl ?_
                        refine jb_if_eq (tgt := 135) hC dX10_counts_118 (by decide) (fun c12 => ?_) (fun c12 => ?_)
                        · refine j_iconst (v := nI 0) hC dX10_counts_135 (by decide) ?_
                          exact j_top (jb_f0 (cAll_f (by first | exact Or.inl (by assumption) | exact Or.inr (by assumption)))) K
                        · refine j_aload_n hC dX10_counts_121 rfl (jrf_ref _) ?_
                          refine j_iload_n hC dX10_counts_122 rfl ?_
                          refine j_iload hC dX10_counts_123 rfl ?_
                          refine r_ci2 hC kv_X10_208 dX10_counts_125 (m_X10_holds (R := (rs R9 0 (nI (0)))) (S := S) (P := (pEnd (sTmpl S))) (r := r9) (c := iOne (pAtI (pIts (pEnd (sTmpl S))) (k)) + m) hp1 hr9 hwk hwf.2.2.2.2.2 (by omega) (by omega)) hB rfl (by decide) (Nat.le_of_ble_eq_true rfl) ?_
                          refine jb_if_eq (tgt := 135) hC dX10_counts_128 (by decide) (fun c13 => ?_) (fun c13 => ?_)
                          · refine j_iconst (v := nI 0) hC dX10_counts_135 (by decide) ?_
                            exact j_top (jb_f0 (cAll_f (by first | exact Or.inl (by assumption) | exact Or.inr (by assumption)))) K
                          · refine j_iconst (v := nI 1) hC dX10_counts_131 (by decide) ?_
                            refine j_goto (tgt := 136) hC dX10_counts_132 (by decide) ?_
                            exact j_top (jb_t1 (cAll_t (by assumption) (by assumption))) K
                      refine j_istore_n3 hC dX10_counts_136 (by decide) rfl ?_
                      refine j_iinc_5 (v := nI (iOne (pAtI (pIts (pEnd (sTmpl S))) (k)) + m + 1)) hC dX10_counts_137 (nI_add _ _) (by decide) rfl ?_
                      refine j_goto (tgt := 105) hC dX10_counts_140 (by decide) ?_
                      exact j_R (rfl) (ihb (m + 1) (by omega) (by omega))
                · refine j_aload_n hC dX10_counts_82 rfl (jrf_ref _) ?_
                  refine r_get hC kf_X10_44 dX10_counts_83 rfl ?_
                  refine j_iload hC dX10_counts_86 rfl ?_
                  refine r_aldN (k := 21) (j := k) (x := nI (iTill (pAtI (pIts (pEnd (sTmpl S))) (k)))) hC dX10_counts_88 (c := 11) (n := 120) (by decide) rfl rfl (by omega) (by decide) (hwt _ (by omega)) ?_
                  refine j_iload_n hC dX10_counts_89 rfl ?_
                  refine n_icmp_gt (tgt := 96) hC dX10_counts_90 (by decide) (by omega) (by omega) (fun c14 => ?_) (fun c14 => ?_)
                  · have hk5 : iKind (pAtI (pIts (pEnd (sTmpl S))) (k)) = 5 := by assumption
                    have h6 := hx6 hk5
                    refine j_aload_n hC dX10_counts_96 rfl (jrf_ref _) ?_
                    refine r_get hC kf_X10_38 dX10_counts_97 rfl ?_
                    refine j_iload hC dX10_counts_100 rfl ?_
                    refine r_aldN (k := 19) (j := k) (x := nI (iOne (pAtI (pIts (pEnd (sTmpl S))) (k)))) hC dX10_counts_102 (c := 9) (n := 120) (by decide) rfl rfl (by omega) (by decide) ((hwk.2.2.2.2.1 _ (by omega)).2.2.1) ?_
                    refine j_istore_5 hC dX10_counts_103 (by decide) rfl ?_
                    suffices K : ∀ (n9b : Nat) (m : Nat), iTwo (pAtI (pIts (pEnd (sTmpl S))) (k)) - iOne (pAtI (pIts (pEnd (sTmpl S))) (k)) - m < n9b → (m ≤ iTwo (pAtI (pIts (pEnd (sTmpl S))) (k)) - iOne (pAtI (pIts (pEnd (sTmpl S))) (k))) → J C (rM o M0 ((rs R9 0 (nI (0))))) 0 0 105 [some (.ref o), some (.int (nI (r9))), some (.int (nI (i9))), some (.int (jb (cAll (sAt S r9) (pCos (pEnd (sTmpl S))) (iOne (pAtI (pIts (pEnd (sTmpl S))) (k))) m = true))), some (.int (nI (k))), some (.int (nI (iOne (pAtI (pIts (pEnd (sTmpl S))) (k)) + m)))] [] from j_R (rfl) (K _ (0) (Nat.lt_succ_self _) (Nat.zero_le _))
                    intro n9b
                    induction n9b with
                    | zero => intro m hm; omega
                    | succ n9b ihb =>
                      intro m hmb hm9
                      refine j_iload hC dX10_counts_105 rfl ?_
                      refine j_aload_n hC dX10_counts_107 rfl (jrf_ref _) ?_
                      refine r_get hC kf_X10_41 dX10_counts_108 rfl ?_
                      refine j_iload hC dX10_counts_111 rfl ?_
                      refine r_aldN (k := 20) (j := k) (x := nI (iTwo (pAtI (pIts (pEnd (sTmpl S))) (k)))) hC dX10_counts_113 (c := 10) (n := 120) (by decide) rfl rfl (by omega) (by decide) ((hwk.2.2.2.2.1 _ (by omega)).2.2.2) ?_
                      refine n_icmp_ge (tgt := 143) hC dX10_counts_114 (by decide) (by omega) (by omega) (fun c15 => ?_) (fun c15 => ?_)
                      · have hmm : m = iTwo (pAtI (pIts (pEnd (sTmpl S))) (k)) - iOne (pAtI (pIts (pEnd (sTmpl S))) (k)) := by omega
                        subst hmm
                        refine j_iinc_4 (v := nI (k + 1)) hC dX10_counts_143 (nI_add _ _) (by decide) rfl ?_
                        refine j_goto (tgt := 55) hC dX10_counts_146 (by decide) ?_
                        exact j_R (rfl) (j_L (jle_s (jle_s (jle_s (jle_s (jle_s (jle_n (jle_0))))))) (iha (k + 1) (cMet (sAt S r9) (pCos (pEnd (sTmpl S))) (pAtI (pIts (pEnd (sTmpl S))) (k))) (by omega) (by omega) (by first | exact cu_no (by omega) hb | exact cu_yes (by omega) hb)))
                      · suffices K : J C (rM o M0 (((rs R9 0 (nI (0)))))) 0 0 136 [some (.ref o), some (.int (nI (r9))), some (.int (nI (i9))), some (.int (jb (cAll (sAt S r9) (pCos (pEnd (sTmpl S))) (iOne (pAtI (pIts (pEnd (sTmpl S))) (k))) m = true))), some (.int (nI (k))), some (.int (nI (iOne (pAtI (pIts (pEnd (sTmpl S))) (k)) + m)))] [.int (jb (cAll (sAt S r9) (pCos (pEnd (sTmpl S))) (iOne (pAtI (pIts (pEnd (sTmpl S))) (k))) (m + 1) = true))] by
                          refine j_iload_n hC dX10_counts_117 rfl ?_
                          refine jb_if_eq (tgt := 135) hC dX10_counts_118 (by decide) (fun c16 => ?_) (fun c16 => ?_)
                          · refine j_iconst (v := nI 0) hC dX10_counts_135 (by decide) ?_
                            exact j_top (jb_f0 (cAll_f (by first | exact Or.inl (by assumption) | exact Or.inr (by assumption)))) K
                          · refine j_aload_n hC dX10_counts_121 rfl (jrf_ref _) ?_
                            refine j_iload_n hC dX10_counts_122 rfl ?_
                            refine j_iload hC dX10_counts_123 rfl ?_
                            refine r_ci2 hC kv_X10_208 dX10_counts_125 (m_X10_holds (R := (rs R9 0 (nI (0)))) (S := S) (P := (pEnd (sTmpl S))) (r := r9) (c := iOne (pAtI (pIts (pEnd (sTmpl S))) (k)) + m) hp1 hr9 hwk hwf.2.2.2.2.2 (by omega) (by omega)) hB rfl (by decide) (Nat.le_of_ble_eq_true rfl) ?_
                            refine jb_if_eq (tgt := 135) hC dX10_counts_128 (by decide) (fun c17 => ?_) (fun c17 => ?_)
                            · refine j_iconst (v := nI 0) hC dX10_counts_135 (by decide) ?_
                              exact j_top (jb_f0 (cAll_f (by first | exact Or.inl (by assumption) | exact Or.inr (by assumption)))) K
                            · refine j_iconst (v := nI 1) hC dX10_counts_131 (by decide) ?_
                              refine j_goto (tgt := 136) hC dX10_counts_132 (by decide) ?_
                              exact j_top (jb_t1 (cAll_t (by assumption) (by assumption))) K
                        refine j_istore_n3 hC dX10_counts_136 (by decide) rfl ?_
                        refine j_iinc_5 (v := nI (iOne (pAtI (pIts (pEnd (sTmpl S))) (k)) + m + 1)) hC dX10_counts_137 (nI_add _ _) (by decide) rfl ?_
                        refine j_goto (tgt := 105) hC dX10_counts_140 (by decide) ?_
                        exact j_R (rfl) (ihb (m + 1) (by omega) (by omega))
                  · refine j_goto (tgt := 143) hC dX10_counts_93 (by decide) ?_
                    refine j_iinc_4 (v := nI (k + 1)) hC dX10_counts_143 (nI_add _ _) (by decide) rfl ?_
                    refine j_goto (tgt := 55) hC dX10_counts_146 (by decide) ?_
                    exact j_R (rfl) (iha (k + 1) (true) (by omega) (by omega) (by first | exact cu_no (by omega) hb | exact cu_yes (by omega) hb))
  · refine j_iconst (v := nI 1) hC dX10_counts_13 (by decide) ?_
    refine j_goto (tgt := 36) hC dX10_counts_14 (by decide) ?_
    refine r_put hC kp_X10_78 dX10_counts_36 hB rfl rfl rF_set_0 ?_
    refine j_aload_n hC dX10_counts_39 rfl (jrf_ref _) ?_
    refine r_getN (x := nI (1)) hC kf_X10_78 dX10_counts_40 rfl (rfl) ?_
    refine n_if_ne (tgt := 50) hC dX10_counts_43 (by decide) (by omega) (fun c18 => ?_) (fun c18 => ?_)
    · refine j_iconst (v := nI 0) hC dX10_counts_50 (by decide) ?_
      refine j_istore_n3 hC dX10_counts_51 (by decide) rfl ?_
      refine j_iconst (v := nI 0) hC dX10_counts_52 (by decide) ?_
      refine j_istore_4 hC dX10_counts_53 (by decide) rfl ?_
      refine j_iload hC dX10_counts_55 rfl ?_
      refine j_iload_n hC dX10_counts_57 rfl ?_
      refine j_icmp_gt (tgt := 149) hC dX10_counts_58 (by decide) (fun c19 => ?_) (fun c19 => ?_)
      · refine j_iload_n hC dX10_counts_149 rfl ?_
        have e9 : opCounts r i (S, P, V, b, e, u) = (1, nI (0), (S, P, V, b, e, u)) := cnt_1 (by assumption)
        exact j_iret hC9 rfl rfl dX10_counts_150 ⟨(rs R9 0 (nI (1))), ro_ans e9 (rfl) (hi1), rfl⟩
      · refine j_iload_n hC dX10_counts_61 rfl ?_
        refine n_if_eq (tgt := 149) hC dX10_counts_62 (by decide) (by omega) (fun c20 => ?_) (fun c20 => ?_)
        · refine j_iload_n hC dX10_counts_149 rfl ?_
          have e9 : opCounts r i (S, P, V, b, e, u) = (1, nI (0), (S, P, V, b, e, u)) := cnt_1 (by assumption)
          exact j_iret hC9 rfl rfl dX10_counts_150 ⟨(rs R9 0 (nI (1))), ro_ans e9 (rfl) (hi1), rfl⟩
        · exact absurd c20 (by decide)
    · exact absurd c18 (by decide)
set_option maxHeartbeats 4000000 in
set_option maxRecDepth 100000 in
theorem o_X10_isOrderFree  : ROp jX10_isOrderFree 18 [] (opFree) := by
  intro R T hi
  obtain ⟨S, P, V, b, e, u⟩ := T
  intro G o M0 hs hBo
  refine jMet_of [some (.ref o), none, none, none, none, none, none] (by decide) rfl (Nat.le_of_ble_eq_true rfl) rfl hs ?_
  intro C hC9 hG
  have hC := hC9.z
  have hB : jB C ≤ o := by rw [jB, hG]; exact hBo
  have hp : rPre R S := ri_pre hi
  have h20 := rp_n20 hp
  have hP8 : P.length ≤ 8 := ri_pn hi
  have hb120 : b.length ≤ 120 := ri_bn hi
  refine j_aload_n hC dX10_isOrderFree_0 rfl (jrf_ref _) ?_
  refine j_iconst (v := nI 0) hC dX10_isOrderFree_1 (by decide) ?_
  refine r_put hC kp_X10_78 dX10_isOrderFree_2 hB rfl rfl rF_set_0 ?_
  refine j_aload_n hC dX10_isOrderFree_5 rfl (jrf_ref _) ?_
  refine r_call hC kv_X10_199 dX10_isOrderFree_6 (m_X10_readsTemplate (R := (rs R 0 (nI (0)))) (S := S) hp) rfl rfl hB rfl (by decide) (Nat.le_of_ble_eq_true rfl) ?_
  intro v9 R9 h9
  obtain ⟨rfl, hp9, hf9⟩ := h9
  have hok9 : pOK (sTmpl S) = true := (ri_ok hi).2
  have hwk : prW R9 (pEnd (sTmpl S)) := hp9.2.2.2.2 hok9
  have hwf := wf_end hok9
  have hop9 := op_end hp9.1.2.2.1 hok9
  have hwt : ∀ i, i < (pIts (pEnd (sTmpl S))).length → R9.2 21 i = nI (iTill (pAtI (pIts (pEnd (sTmpl S))) (i))) := fun i hi => hwk.2.2.2.2.2.2.2.2.2.2.2 i hi (by rw [hop9]; exact List.not_mem_nil)
  have hil9 := hwk.2.2.2.2.2.2.1
  have hcl9 := hwk.2.2.2.2.2.2.2.1
  have hat9 := hp9.2.2.2.1
  have hL129 := hp9.1.2.2.1
  have hi1 : rInv R9 (S, P, V, b, e, u) := ri_pfs (R := rs R 0 (nI 0)) hi hf9
  have hp1 : rPre R9 S := ri_pre hi1
  have hrd : rdW R9 S := ⟨hp1, ri_ok hi, hp9.1, hwk, by omega, by omega⟩
  have hp3 : sPol S < 3 := hp.2.2.2.1
  have ho2 : othP (sPol S) ≤ 2 := by unfold othP; split <;> omega
  suffices K : J C (rM o M0 (R9)) 0 0 31 [some (.ref o), none, none, none, none, none, none] [.int (nI (othP (sPol S)))] by
    refine j_aload_n hC dX10_isOrderFree_9 rfl (jrf_ref _) ?_
    refine r_get hC kf_X10_9 dX10_isOrderFree_10 rfl ?_
    refine j_iconst (v := nI 2) hC dX10_isOrderFree_13 (by decide) ?_
    refine r_aldN (k := 1) (j := 2) (x := nI (sPol S)) hC dX10_isOrderFree_14 (c := 1) (n := 14790) (by decide) rfl rfl (by omega) (by decide) (rp_pol hp1) ?_
    refine j_iconst (v := nI 2) hC dX10_isOrderFree_15 (by decide) ?_
    refine n_icmp_ne (tgt := 23) hC dX10_isOrderFree_16 (by decide) (by omega) (by omega) (fun c1 => ?_) (fun c1 => ?_)
    · refine j_iconst (v := nI 1) hC dX10_isOrderFree_23 (by decide) ?_
      refine j_aload_n hC dX10_isOrderFree_24 rfl (jrf_ref _) ?_
      refine r_get hC kf_X10_9 dX10_isOrderFree_25 rfl ?_
      refine j_iconst (v := nI 2) hC dX10_isOrderFree_28 (by decide) ?_
      refine r_aldN (k := 1) (j := 2) (x := nI (sPol S)) hC dX10_isOrderFree_29 (c := 1) (n := 14790) (by decide) rfl rfl (by omega) (by decide) (rp_pol hp1) ?_
      refine n_isub hC dX10_isOrderFree_30 (by omega) ?_
      exact j_top (by first | rw [othP, if_pos (by omega)] | rw [othP, if_neg (by omega)]) K
    · refine j_iconst (v := nI 2) hC dX10_isOrderFree_19 (by decide) ?_
      refine j_goto (tgt := 31) hC dX10_isOrderFree_20 (by decide) ?_
      exact j_top (by first | rw [othP, if_pos (by omega)] | rw [othP, if_neg (by omega)]) K
  refine j_istore_n1 hC dX10_isOrderFree_31 (by decide) rfl ?_
  refine j_iconst (v := nI 1) hC dX10_isOrderFree_32 (by decide) ?_
  refine j_top (jb_t1 (p := ordB S 0 = true) rfl) ?_
  refine j_istore_n2 hC dX10_isOrderFree_33 (by decide) rfl ?_
  refine j_iconst (v := nI 0) hC dX10_isOrderFree_34 (by decide) ?_
  refine j_istore_n3 hC dX10_isOrderFree_35 (by decide) rfl ?_
  suffices K : ∀ (n9 : Nat) (r : Nat) (R8 : rR), (sRecs S).length - r < n9 → (r ≤ (sRecs S).length) → (rdW R8 S) → (mFr R9 R8) → J C (rM o M0 (R8)) 0 0 36 [some (.ref o), some (.int (nI (othP (sPol S)))), some (.int (jb (ordB S r = true))), some (.int (nI (r))), none, none, none] [] from j_R (rfl) (K _ (0) (R9) (Nat.lt_succ_self _) (Nat.zero_le _) (hrd) (mFr_refl))
  intro n9
  induction n9 with
  | zero => intro r R8 hm; omega
  | succ n9 ih =>
    intro r R8 hm hr hrd8 hfr
    refine j_iload_n hC dX10_isOrderFree_36 rfl ?_
    refine j_aload_n hC dX10_isOrderFree_37 rfl (jrf_ref _) ?_
    refine r_get hC kf_X10_9 dX10_isOrderFree_38 rfl ?_
    refine j_iconst (v := nI 0) hC dX10_isOrderFree_41 (by decide) ?_
    refine r_aldN (k := 1) (j := 0) (x := nI ((sRecs S).length)) hC dX10_isOrderFree_42 (c := 1) (n := 14790) (by decide) rfl rfl (by omega) (by decide) (rp_many hrd8.1) ?_
    refine n_icmp_ge (tgt := 112) hC dX10_isOrderFree_43 (by decide) (by omega) (by omega) (fun c2 => ?_) (fun c2 => ?_)
    · refine j_iload_n hC dX10_isOrderFree_112 rfl ?_
      have e9 : opFree (S, P, V, b, e, u) = (0, jb (ordB S r = true), (S, P, V, b, e, u)) := by rw [show r = (sRecs S).length by omega]; rfl
      exact j_iret hC9 rfl jb_nar dX10_isOrderFree_113 ⟨R8, ro_ans e9 ((hfr.1 0 (by decide) (by decide)).trans (hf9.1 0 (by decide) (by decide) (by decide) (by decide) (by decide) (by decide) (by decide))) (ri_mfr hi1 hfr), rfl⟩
    · refine j_aload_n hC dX10_isOrderFree_46 rfl (jrf_ref _) ?_
      refine j_iload_n hC dX10_isOrderFree_47 rfl ?_
      refine j_aload_n hC dX10_isOrderFree_48 rfl (jrf_ref _) ?_
      refine r_get hC kf_X10_9 dX10_isOrderFree_49 rfl ?_
      refine j_iconst (v := nI 2) hC dX10_isOrderFree_52 (by decide) ?_
      refine r_aldN (k := 1) (j := 2) (x := nI (sPol S)) hC dX10_isOrderFree_53 (c := 1) (n := 14790) (by decide) rfl rfl (by omega) (by decide) (rp_pol hrd8.1) ?_
      refine j_iconst (v := nI 0) hC dX10_isOrderFree_54 (by decide) ?_
      refine j_top (jb_f0 (p := false = true) (by decide)) ?_
      refine r_call hC kv_X10_256 dX10_isOrderFree_55 (m_X10_reasonOf (R := R8) (S := S) (r := r) (p := sPol S) (b := false) hrd8 (by assumption) (by omega)) rfl rfl hB rfl (by decide) (Nat.le_of_ble_eq_true rfl) ?_
      intro v1 R1 h1
      obtain ⟨rfl, hs1⟩ := h1
      have hrd1 := rd_mfr hrd8 hs1.1
      have hb1 := rsn_b (S := S) (r := r) (p := sPol S) (b := false) (ri_ok hi) (by assumption)
      refine j_istore_4 hC dX10_isOrderFree_58 (by decide) rfl ?_
      refine j_aload_n hC dX10_isOrderFree_60 rfl (jrf_ref _) ?_
      refine r_get hC kf_X10_215 dX10_isOrderFree_61 rfl ?_
      refine j_istore_5 hC dX10_isOrderFree_64 (by decide) rfl ?_
      refine j_aload_n hC dX10_isOrderFree_66 rfl (jrf_ref _) ?_
      refine j_iload_n hC dX10_isOrderFree_67 rfl ?_
      refine j_iload_n hC dX10_isOrderFree_68 rfl ?_
      refine j_iconst (v := nI 1) hC dX10_isOrderFree_69 (by decide) ?_
      refine j_top (jb_t1 (p := true = true) rfl) ?_
      refine r_call hC kv_X10_256 dX10_isOrderFree_70 (m_X10_reasonOf (R := R1) (S := S) (r := r) (p := othP (sPol S)) (b := true) hrd1 (by assumption) (by omega)) rfl rfl hB rfl (by decide) (Nat.le_of_ble_eq_true rfl) ?_
      intro v2 R2 h2
      obtain ⟨rfl, hs2⟩ := h2
      have hrd2 := rd_mfr hrd1 hs2.1
      have hb2 := rsn_b (S := S) (r := r) (p := othP (sPol S)) (b := true) (ri_ok hi) (by assumption)
      refine j_istore_6 hC dX10_isOrderFree_73 (by decide) rfl ?_
      suffices K : J C (rM o M0 (R2)) 0 0 105 [some (.ref o), some (.int (nI (othP (sPol S)))), some (.int (jb (ordB S r = true))), some (.int (nI (r))), some (.int (nI (rsnA S r (sPol S) false))), some (.int (R1.1 28)), some (.int (nI (rsnA S r (othP (sPol S)) true)))] [.int (jb (ordB S (r + 1) = true))] by
        refine j_iload_n hC dX10_isOrderFree_75 rfl ?_
        refine jb_if_eq (tgt := 104) hC dX10_isOrderFree_76 (by decide) (fun c3 => ?_) (fun c3 => ?_)
        · refine j_iconst (v := nI 0) hC dX10_isOrderFree_104 (by decide) ?_
          exact j_top (jb_f0 (ord_f (by first | exact Or.inl (by assumption) | exact Or.inr (by assumption)))) K
        · refine j_iload hC dX10_isOrderFree_79 rfl ?_
          refine j_iload hC dX10_isOrderFree_81 rfl ?_
          refine n_icmp_ne (tgt := 104) hC dX10_isOrderFree_83 (by decide) (by omega) (by omega) (fun c4 => ?_) (fun c4 => ?_)
          · refine j_iconst (v := nI 0) hC dX10_isOrderFree_104 (by decide) ?_
            exact j_top (jb_f0 (ord_f (by first | exact Or.inl (by assumption) | exact Or.inr (by assumption)))) K
          · refine j_iload hC dX10_isOrderFree_86 rfl ?_
            refine n_if_ne (tgt := 100) hC dX10_isOrderFree_88 (by decide) (by omega) (fun c5 => ?_) (fun c5 => ?_)
            · refine j_iconst (v := nI 1) hC dX10_isOrderFree_100 (by decide) ?_
              refine j_goto (tgt := 105) hC dX10_isOrderFree_101 (by decide) ?_
              exact j_top (jb_t1 (ord_t (by assumption) (by omega))) K
            · refine j_iload hC dX10_isOrderFree_91 rfl ?_
              refine j_aload_n hC dX10_isOrderFree_93 rfl (jrf_ref _) ?_
              refine r_get hC kf_X10_215 dX10_isOrderFree_94 rfl ?_
              refine j_icmp_ne (tgt := 104) hC dX10_isOrderFree_97 (by decide) (fun c6 => ?_) (fun c6 => ?_)
              · exact absurd ((hs1.2.1 (by assumption)).1.trans (hs2.2.1 (by omega)).1.symm) (by assumption)
              · refine j_iconst (v := nI 1) hC dX10_isOrderFree_100 (by decide) ?_
                refine j_goto (tgt := 105) hC dX10_isOrderFree_101 (by decide) ?_
                exact j_top (jb_t1 (ord_t (by assumption) (by omega))) K
      refine j_istore_n2 hC dX10_isOrderFree_105 (by decide) rfl ?_
      refine j_iinc_3 (v := nI (r + 1)) hC dX10_isOrderFree_106 (nI_add _ _) (by decide) rfl ?_
      refine j_goto (tgt := 36) hC dX10_isOrderFree_109 (by decide) ?_
      exact j_R (rfl) (j_L (jle_s (jle_s (jle_s (jle_s (jle_n (jle_n (jle_n (jle_0)))))))) (ih (r + 1) (R2) (by omega) (by omega) (hrd2) (mFr_trans hfr (mFr_trans hs1.1 hs2.1))))
