/-- an item, however deep -/
theorem it_all {L : List Nat} : ∀ (t : Nat) (R : rR) (P : pP), prR R L P → (pσ P).2 = true → (pσ P).1 < L.length → (pC L (pσ P).1 = 93 → (pOp P).length = 0) → (pOp P).length + t = 4 → RMet jX10_item (7 + 2 * t) [] R (itP R L P)
  | 0, R, P, hr, hw, hl, h93, ht => m_X10_item (dB := 6) (by omega) (by omega) hr hw hl h93 (fun hc => m_X10_bracket (dI := 0) (by omega) (by omega) hr hw hc (fun h => absurd h (by omega)))
  | t + 1, R, P, hr, hw, hl, h93, ht => m_X10_item (dB := 7 + 2 * t + 1) (by omega) (by omega) hr hw hl h93 (fun hc => m_X10_bracket (dI := 7 + 2 * t) (by omega) (by omega) hr hw hc (fun h R' P' h1 h2 h3 h4 h5 => it_all t R' P' h1 h2 h3 (fun e => absurd e h4) (by omega)))
theorem jd_up {y : jY} {d d' : Nat} {args : List Value} {R : rR} {Q : Option Value → rR → Prop} (h : d = d') (hM : RMet y d args R Q) : RMet y d' args R Q := h ▸ hM
theorem m_X10_itemAll {R : rR} {L : List Nat} {P : pP} (hr : prR R L P) (hw : (pσ P).2 = true) (hl : (pσ P).1 < L.length) (h0 : True → (pOp P).length = 0) : RMet jX10_item 15 [] R (itP R L P) := it_all 4 R P hr hw hl (fun _ => h0 trivial) (by rw [h0 trivial])
theorem pMore_mo {L : List Nat} : ∀ (f : Nat) (σ : pS), σ.1 ≤ (pMore L f σ).2.1
  | 0, σ => Nat.le_refl _
  | f + 1, σ => by
    by_cases h : pNx L 38 σ = true
    · rw [pMore_s (by omega) h]
      exact Nat.le_trans (pNext_mo (L := L) (c := 38)) (Nat.le_trans (pCond_mo (L := L)) (pMore_mo f _))
    · rw [pMore_no h]
      exact Nat.le_refl _
theorem pMore_le {L : List Nat} : ∀ (f : Nat) (σ : pS), σ.1 ≤ L.length → (pMore L f σ).2.1 ≤ L.length
  | 0, σ, h => h
  | f + 1, σ, h => by
    by_cases e : pNx L 38 σ = true
    · rw [pMore_s (by omega) e]
      exact pMore_le f _ (pCond_le (pNext_le (by decide) h))
    · rw [pMore_no e]
      exact h
theorem pLit_mo {L : List Nat} : ∀ (f i : Nat), i ≤ pLit L f i
  | 0, i => Nat.le_refl _
  | f + 1, i => by
    unfold pLit
    split
    · exact Nat.le_trans (Nat.le_succ i) (pLit_mo f (i + 1))
    · exact Nat.le_refl _
theorem pLit_le {L : List Nat} : ∀ (f i : Nat), i ≤ L.length → pLit L f i ≤ L.length
  | 0, i, h => h
  | f + 1, i, h => by
    unfold pLit
    split
    · rename_i e
      exact pLit_le f (i + 1) (lit_lt e)
    · exact h
theorem pEnd_mo {L : List Nat} {k i : Nat} : i < (pEndσ L k i).1 := by
  unfold pEndσ
  split
  · refine Nat.lt_of_lt_of_le (Nat.lt_succ_self i) (Nat.le_trans (pDig_mo (L := L) (n := 4) (σ := (i + 1, true))) (Nat.le_trans ?_ pWant_mo))
    split
    · exact pNext_mo
    · exact pNext_mo
  · split
    · refine Nat.lt_of_lt_of_le (Nat.lt_succ_self i) (Nat.le_trans (pLit_mo 120 (i + 1)) (Nat.le_trans (pWant_mo (L := L) (c := 124) (σ := (pLit L 120 (i + 1), true))) (Nat.le_trans ?_ pWant_mo)))
      split
      · exact pLit_mo 120 _
      · exact Nat.le_refl _
    · exact Nat.lt_succ_self i
theorem pEnd_le {L : List Nat} {k i : Nat} (h : i < L.length) : (pEndσ L k i).1 ≤ L.length := by
  unfold pEndσ
  split
  · refine pWant_le (by decide) ?_
    split
    · exact pNext_le (by decide) (pDig_le h)
    · exact pNext_le (by decide) (pDig_le h)
  · split
    · refine pWant_le (by decide) ?_
      have h2 : (pWant L 124 (pLit L 120 (i + 1), true)).1 ≤ L.length := pWant_le (by decide) (pLit_le 120 (i + 1) h)
      split
      · exact pLit_le 120 _ h2
      · exact h2
    · exact h
theorem pOpen_mo {L : List Nat} {i : Nat} : i < (pOpen L i).2.1 := Nat.lt_of_lt_of_le (Nat.lt_succ_self i) (Nat.le_trans (pCond_mo (L := L) (σ := (i + 1, true))) (Nat.le_trans (pMore_mo 121 _) pWant_mo))
theorem pOpen_le {L : List Nat} {i : Nat} (h : i < L.length) : (pOpen L i).2.1 ≤ L.length := pWant_le (by decide) (pMore_le 121 _ (pCond_le h))
/-- a step goes on, or it went wrong -/
theorem pStep_mo {L : List Nat} {P : pP} (h : (pσ P).1 ≤ L.length) : (pσ (pStep1 L P)).1 ≤ L.length ∧ ((pσ (pStep1 L P)).2 = true → (pσ P).1 < (pσ (pStep1 L P)).1) := by
  have hb : ∀ Q : pP, Q = pBad P ((pσ P).1, false) → (pσ Q).1 ≤ L.length ∧ ((pσ Q).2 = true → (pσ P).1 < (pσ Q).1) := by
    intro Q hQ
    subst hQ
    exact ⟨h, fun e => absurd (show false = true from e) (by decide)⟩
  unfold pStep1
  by_cases h1 : pC L (pσ P).1 = 91
  · rw [if_pos h1]
    have hl : (pσ P).1 < L.length := lt_of_pC (by rw [h1]; decide)
    split
    · exact hb _ rfl
    · exact ⟨pOpen_le hl, fun _ => pOpen_mo⟩
  · rw [if_neg h1]
    by_cases h2 : pC L (pσ P).1 = 93
    · rw [if_pos h2]
      have hl : (pσ P).1 < L.length := lt_of_pC (by rw [h2]; decide)
      split
      · exact hb _ rfl
      · exact ⟨hl, fun _ => Nat.lt_succ_self _⟩
    · rw [if_neg h2]
      split
      · exact hb _ rfl
      · rename_i k hk
        have hl : (pσ P).1 < L.length := by
          refine lt_of_pC ?_
          by_cases e : pC L (pσ P).1 = 0
          · rw [e] at hk
            have e0 : pKind 0 = none := by decide
            rw [e0] at hk
            cases hk
          · omega
        exact ⟨pEnd_le hl, fun _ => pEnd_mo⟩
theorem wM_step {L : List Nat} {P : pP} (h : (pσ P).1 ≤ L.length) (hr : pRuns L P = true) : wM L (pStep1 L P) < wM L P := by
  have h2 := pStep_mo (L := L) h
  refine wM_lt ?_ h2.1 h2.2
  rw [pRuns, Bool.and_eq_true] at hr
  exact hr.1
theorem pRuns_at {L : List Nat} : ∀ (n : Nat) (P : pP), (pσ P).1 ≤ L.length → wM L P ≤ n → pRuns L (pIter L n P) = false
  | 0, P, h, hw => by
    show pRuns L P = false
    cases hr : pRuns L P with
    | false => rfl
    | true => have := wM_step h hr; omega
  | n + 1, P, h, hw => by
    show pRuns L (pIter L n (pStep L P)) = false
    unfold pStep
    by_cases hr : pRuns L P = true
    · rw [if_pos hr]
      exact pRuns_at n _ (pStep_mo h).1 (by have := wM_step h hr; omega)
    · rw [if_neg hr]
      have hr2 : pRuns L P = false := Bool.eq_false_iff.mpr hr
      rw [pRuns_no hr2]
      exact hr2
theorem pEnd_stop {L : List Nat} (hl : L.length ≤ 120) : pRuns L (pEnd L) = false := pRuns_at 122 pP0 (Nat.zero_le _) (by
  show (if true = true then 1 + (L.length - 0) else 0) ≤ 122
  rw [if_pos rfl]
  omega)
theorem pEnd_of {L : List Nat} {n : Nat} (hl : L.length ≤ 120) (h : pRuns L (pIter L n pP0) = false) : pIter L n pP0 = pEnd L := by
  have h2 := pEnd_stop hl
  have e1 : pIter L (n + 122) pP0 = pIter L n pP0 := by rw [pIter_add, pRuns_no h]
  have e2 : pIter L (122 + n) pP0 = pEnd L := by rw [pIter_add]; exact pRuns_no h2 n
  rw [← e1, Nat.add_comm, e2]
theorem pr_0 {R : rR} {L : List Nat} (hL : lnR R L) : prR (rs (rs (rs (rs (rs (rs R 12 (nI 0)) 13 (zI (-1))) 14 (nI 0)) 15 (nI 0)) 16 (nI 0)) 22 (nI 0)) L pP0 :=
  ⟨hL, rfl, rfl, Nat.zero_le _, fun _ => ⟨rfl, rfl, rfl, rfl, fun i hi => absurd hi (Nat.not_lt_zero i), fun i hi => absurd hi (Nat.not_lt_zero i), Nat.le_refl _, Nat.le_refl _, Nat.zero_le _, Nat.zero_le _, fun i hi => absurd (show i ∈ ([] : List Nat) from hi) List.not_mem_nil, fun i hi => absurd hi (Nat.not_lt_zero i)⟩⟩
theorem pFr_0 {R : rR} : pFr R (rs (rs (rs (rs (rs (rs R 12 (nI 0)) 13 (zI (-1))) 14 (nI 0)) 15 (nI 0)) 16 (nI 0)) 22 (nI 0)) := pFr_rs (pFr_rs (pFr_rs (pFr_rs (pFr_rs (pFr_rs pFr_refl (by decide)) (by decide)) (by decide)) (by decide)) (by decide)) (by decide)
theorem rd_1 {L : List Nat} {P : pP} (h : 0 ≤ pF (pσ P)) : pRuns L P = false := by
  rw [pRuns, pF_nn h]
  rfl
theorem rd_2 {L : List Nat} {P : pP} (h4 : (pσ P).2 = true → pOp P = []) (h : L.length ≤ (pσ P).1) : pRuns L P = false := by
  unfold pRuns
  cases e : (pσ P).2 with
  | false => rfl
  | true => rw [h4 e, decide_eq_true h]; rfl
theorem rd_end {R : rR} {L : List Nat} {P : pP} (hq : prR R L P) (hl : L.length ≤ 120) (h : ∃ k, P = pIter L k pP0) (hr : pRuns L P = false) : prR R L (pEnd L) := by
  obtain ⟨k, hk⟩ := h
  subst hk
  rw [← pEnd_of hl hr]
  exact hq
set_option maxHeartbeats 4000000 in
set_option maxRecDepth 100000 in
theorem m_X10_reads {R : rR} {L : List Nat} (hL : lnR R L) : RMet jX10_reads 16 [] R (fun v R' => v = none ∧ prR R' L (pEnd L) ∧ pFr R R') := by
  intro G o M0 hs hBo
  refine jMet_of [some (.ref o)] (by decide) rfl (Nat.le_of_ble_eq_true rfl) rfl hs ?_
  intro C hC9 hG
  have hC := hC9.z
  have hB : jB C ≤ o := by rw [jB, hG]; exact hBo
  have hLc := hL.2.2.2
  have hL120 := hL.2.2.1
  refine j_aload_n hC dX10_reads_0 rfl (jrf_ref _) ?_
  refine j_iconst (v := nI 0) hC dX10_reads_1 (by decide) ?_
  refine r_put hC kp_X10_147 dX10_reads_2 hB rfl rfl rF_set_12 ?_
  refine j_aload_n hC dX10_reads_5 rfl (jrf_ref _) ?_
  refine j_iconst (v := zI (-1)) hC dX10_reads_6 (by decide) ?_
  refine r_put hC kp_X10_153 dX10_reads_7 hB rfl rfl rF_set_13 ?_
  refine j_aload_n hC dX10_reads_10 rfl (jrf_ref _) ?_
  refine j_iconst (v := nI 0) hC dX10_reads_11 (by decide) ?_
  refine r_put hC kp_X10_175 dX10_reads_12 hB rfl rfl rF_set_14 ?_
  refine j_aload_n hC dX10_reads_15 rfl (jrf_ref _) ?_
  refine j_iconst (v := nI 0) hC dX10_reads_16 (by decide) ?_
  refine r_put hC kp_X10_181 dX10_reads_17 hB rfl rfl rF_set_15 ?_
  refine j_aload_n hC dX10_reads_20 rfl (jrf_ref _) ?_
  refine j_iconst (v := nI 0) hC dX10_reads_21 (by decide) ?_
  refine r_put hC kp_X10_162 dX10_reads_22 hB rfl rfl rF_set_16 ?_
  refine j_aload_n hC dX10_reads_25 rfl (jrf_ref _) ?_
  refine j_iconst (v := nI 0) hC dX10_reads_26 (by decide) ?_
  refine r_put hC kp_X10_165 dX10_reads_27 hB rfl rfl rF_set_22 ?_
  suffices K : ∀ (n9 : Nat) (R2 : rR) (P2 : pP), wM L P2 < n9 → (prR R2 L P2) → (pFr R R2) → (∃ k, P2 = pIter L k pP0) → ((pσ P2).2 = true → pOp P2 = []) → J C (rM o M0 (R2)) 0 0 30 [some (.ref o)] [] from j_R (rfl) (K _ ((rs (rs (rs (rs (rs (rs R 12 (nI (0))) 13 (zI ((-1)))) 14 (nI (0))) 15 (nI (0))) 16 (nI (0))) 22 (nI (0)))) (pP0) (Nat.lt_succ_self _) (pr_0 hL) (pFr_0) (⟨0, rfl⟩) (fun _ => rfl))
  intro n9
  induction n9 with
  | zero => intro R2 P2 hm; omega
  | succ n9 ih =>
    intro R2 P2 hm hq hq2 hq3 hq4
    have hs2 := sg_self (R := R2) hq.2.1 hq.2.2.1
    have hpf := pF_b (σ := pσ P2)
    have hle2 := hq.2.2.2.1
    refine j_aload_n hC dX10_reads_30 rfl (jrf_ref _) ?_
    refine r_getN (x := zI (pF (pσ P2))) hC kf_X10_153 dX10_reads_31 rfl (hq.2.2.1) ?_
    refine z_if_ge (a := (pF (pσ P2))) (tgt := 55) hC dX10_reads_34 (by decide) (by unfold zB; omega) (fun c1 => ?_) (fun c1 => ?_)
    · exact j_vret hC9 rfl dX10_reads_55 ⟨R2, ⟨rfl, by first | exact rd_end hq hL120 hq3 (rd_1 (by assumption)) | exact rd_end hq hL120 hq3 (rd_2 hq4 (by assumption)), hq2⟩, rfl⟩
    · refine j_aload_n hC dX10_reads_37 rfl (jrf_ref _) ?_
      refine r_getN (x := nI ((pσ P2).1)) hC kf_X10_147 dX10_reads_38 rfl (hq.2.1) ?_
      refine j_aload_n hC dX10_reads_41 rfl (jrf_ref _) ?_
      refine r_getN (x := nI (L.length)) hC kf_X10_150 dX10_reads_42 rfl (hq.1.1) ?_
      refine n_icmp_ge (tgt := 55) hC dX10_reads_45 (by decide) (by omega) (by omega) (fun c2 => ?_) (fun c2 => ?_)
      · exact j_vret hC9 rfl dX10_reads_55 ⟨R2, ⟨rfl, by first | exact rd_end hq hL120 hq3 (rd_1 (by assumption)) | exact rd_end hq hL120 hq3 (rd_2 hq4 (by assumption)), hq2⟩, rfl⟩
      · refine j_R (R' := (sgR R2 (pσ P2))) (hs2) ?_
        have hok2 : (pσ P2).2 = true := pF_neg (by assumption)
        have hlt2 : (pσ P2).1 < L.length := by assumption
        have hqs : prR (sgR R2 (pσ P2)) L P2 := by rw [← hs2]; exact hq
        refine j_aload_n hC dX10_reads_48 rfl (jrf_ref _) ?_
        refine r_call hC kv_X10_187 dX10_reads_49 (m_X10_itemAll (R := sgR R2 (pσ P2)) (P := P2) hqs hok2 hlt2 (fun _ => by rw [hq4 hok2]; rfl)) rfl rfl hB rfl (by omega) (Nat.le_of_ble_eq_true rfl) ?_
        intro v9 R9 h9
        obtain ⟨rfl, m9, hp9, hf9, hx9⟩ := h9
        have hmz : wM L (pIter L m9 P2) < wM L P2 := wM_lt hok2 hp9.2.2.2.1 (fun e => (hx9 e).2)
        refine j_goto (tgt := 30) hC dX10_reads_52 (by decide) ?_
        exact j_R (rfl) (ih (R9) (pIter L m9 P2) (by omega) (hp9) (pFr_trans (pFr_sg hq2) hf9) (by obtain ⟨k, hk⟩ := hq3; exact ⟨k + m9, by rw [pIter_add, ← hk]⟩) (fun e => (hx9 e).1.trans (hq4 hok2)))
