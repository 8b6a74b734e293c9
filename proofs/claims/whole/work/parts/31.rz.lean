theorem br_op {L : List Nat} {a dp : Nat} {its : List pIt} {cos cs : List pCo} {op : List Nat} {τ : pS} (hc : pC L a = 91) (hal : a < L.length) (h4 : ¬ op.length = 4) (hcs : (pOpen L a).1 = cs) (hτ : (pOpen L a).2 = τ) : pIter L 1 ((a, true), its, cos, op, dp) = (τ, its ++ [(5, a, op, cos.length, cos.length + cs.length, 0)], cos ++ cs, its.length :: op, max dp (op.length + 1)) := by
  subst hcs; subst hτ
  exact (pIter_1 (pRuns_of rfl (Or.inl hal))).trans ((if_pos hc).trans (if_neg h4))
set_option maxHeartbeats 4000000 in
set_option maxRecDepth 100000 in
theorem m_X10_bracket {R : rR} {L : List Nat} {P : pP} {dB dI : Nat} (h4d : 4 ≤ dB) (hdI : dI + 1 ≤ dB) (hr : prR R L P) (hw : (pσ P).2 = true) (hc : pC L (pσ P).1 = 91) (hI : (pOp P).length < 4 → ∀ R' P', prR R' L P' → (pσ P').2 = true → (pσ P').1 < L.length → (¬ pC L (pσ P').1 = 93) → (pOp P').length = (pOp P).length + 1 → RMet jX10_item dI [] R' (itP R' L P')) : RMet jX10_bracket dB [] R (itP R L P) := by
  intro G o M0 hs hBo
  refine jMet_of [some (.ref o), none] (by decide) rfl (Nat.le_of_ble_eq_true rfl) rfl hs ?_
  intro C hC9 hG
  have hC := hC9.z
  have hB : jB C ≤ o := by rw [jB, hG]; exact hBo
  obtain ⟨⟨a, w⟩, its, cos, op, dp⟩ := P
  have hL := hr.1
  have hLc := hL.2.2.2
  have hL120 := hL.2.2.1
  have hw1 : w = true := hw
  subst hw1
  have h12 : R.1 12 = nI a := hr.2.1
  have h13 : R.1 13 = zI (-1) := hr.2.2.1
  obtain ⟨h14, h15, h16, h22, hits, hcos, hil, hcl, hol, hdl, hmem, htil⟩ := hr.2.2.2.2 rfl
  have h14 : R.1 14 = nI op.length := h14
  have h15 : R.1 15 = nI dp := h15
  have h16 : R.1 16 = nI its.length := h16
  have h22 : R.1 22 = nI cos.length := h22
  have hil : its.length ≤ a := hil
  have hcl : cos.length ≤ a := hcl
  have hol : op.length ≤ 4 := hol
  have hdl : dp ≤ 4 := hdl
  have hc : pC L a = 91 := hc
  have hal : a < L.length := lt_of_pC (by rw [hc]; decide)
  refine j_aload_n hC dX10_bracket_0 rfl (jrf_ref _) ?_
  refine r_getN (x := nI (op.length)) hC kf_X10_175 dX10_bracket_1 rfl (h14) ?_
  refine j_iconst (v := nI 4) hC dX10_bracket_4 (by decide) ?_
  refine n_icmp_ne (tgt := 17) hC dX10_bracket_5 (by decide) (by omega) (by omega) (fun c1 => ?_) (fun c1 => ?_)
  · have h4 : op.length < 4 := by omega
    refine j_aload_n hC dX10_bracket_17 rfl (jrf_ref _) ?_
    refine j_iconst (v := nI 5) hC dX10_bracket_18 (by decide) ?_
    refine j_aload_n hC dX10_bracket_19 rfl (jrf_ref _) ?_
    refine r_getN (x := nI (a)) hC kf_X10_147 dX10_bracket_20 rfl (h12) ?_
    refine r_ci2 hC kv_X10_178 dX10_bracket_23 (m_X10_lays (R := R) (n := its.length) (k := 5) (p := a) (h16) (by omega)) hB rfl (by omega) (Nat.le_of_ble_eq_true rfl) ?_
    refine j_istore_n1 hC dX10_bracket_26 (by decide) rfl ?_
    refine j_aload_n hC dX10_bracket_27 rfl (jrf_ref _) ?_
    refine j_dup hC dX10_bracket_28 rfl ?_
    refine r_getN (x := nI (a)) hC kf_X10_147 dX10_bracket_29 rfl (h12) ?_
    refine j_iconst (v := nI 1) hC dX10_bracket_32 (by decide) ?_
    refine n_iadd hC dX10_bracket_33 ?_
    refine r_put hC kp_X10_147 dX10_bracket_34 hB rfl rfl rF_set_12 ?_
    refine j_aload_n hC dX10_bracket_37 rfl (jrf_ref _) ?_
    refine j_dup hC dX10_bracket_38 rfl ?_
    refine r_getN (x := nI (op.length)) hC kf_X10_175 dX10_bracket_39 rfl (h14) ?_
    refine j_iconst (v := nI 1) hC dX10_bracket_42 (by decide) ?_
    refine n_iadd hC dX10_bracket_43 ?_
    refine r_put hC kp_X10_175 dX10_bracket_44 hB rfl rfl rF_set_14 ?_
    refine j_aload_n hC dX10_bracket_47 rfl (jrf_ref _) ?_
    refine j_aload_n hC dX10_bracket_48 rfl (jrf_ref _) ?_
    refine r_getN (x := nI ((op.length) + (1))) hC kf_X10_175 dX10_bracket_49 rfl (rfl) ?_
    refine j_aload_n hC dX10_bracket_52 rfl (jrf_ref _) ?_
    refine r_getN (x := nI (dp)) hC kf_X10_181 dX10_bracket_53 rfl (h15) ?_
    suffices K : J C (rM o M0 ((rs (rs (lyR R (its.length) (5) (a)) 12 (nI (a + 1))) 14 (nI ((op.length) + (1)))))) 0 0 70 [some (.ref o), some (.int (nI (its.length)))] [.int (nI (max dp (op.length + 1))), .ref o] by
      refine n_icmp_le (tgt := 66) hC dX10_bracket_56 (by decide) (by omega) (by omega) (fun c2 => ?_) (fun c2 => ?_)
      · refine j_aload_n hC dX10_bracket_66 rfl (jrf_ref _) ?_
        refine r_getN (x := nI (dp)) hC kf_X10_181 dX10_bracket_67 rfl (h15) ?_
        exact j_top (congrArg nI (by omega)) K
      · refine j_aload_n hC dX10_bracket_59 rfl (jrf_ref _) ?_
        refine r_getN (x := nI ((op.length) + (1))) hC kf_X10_175 dX10_bracket_60 rfl (rfl) ?_
        refine j_goto (tgt := 70) hC dX10_bracket_63 (by decide) ?_
        exact j_top (congrArg nI (by omega)) K
    refine r_put hC kp_X10_181 dX10_bracket_70 hB rfl rfl rF_set_15 ?_
    refine j_aload_n hC dX10_bracket_73 rfl (jrf_ref _) ?_
    refine r_get hC kf_X10_38 dX10_bracket_74 rfl ?_
    refine j_iload_n hC dX10_bracket_77 rfl ?_
    refine j_aload_n hC dX10_bracket_78 rfl (jrf_ref _) ?_
    refine r_getN (x := nI (cos.length)) hC kf_X10_165 dX10_bracket_79 rfl (h22) ?_
    refine r_ast (k := 19) (j := its.length) hC dX10_bracket_82 (c := 9) (n := 120) (by decide) (fun _ => rfl) (rO_k19) hB rfl (by omega) (by decide) ?_
    suffices K : ∀ (X : rR), (X.1 14 = nI (op.length + 1)) → (X.1 15 = nI (max dp (op.length + 1))) → (X.1 16 = nI (its.length + 1)) → (X.1 22 = nI cos.length) → (lnR X L) → (∀ i, i < its.length → itR X i (pAtI its i)) → (X.2 17 its.length = nI 5 ∧ X.2 18 its.length = nI a ∧ X.2 19 its.length = nI cos.length) → (∀ j, j < cos.length → cdR X j (pAtC cos j)) → (∀ i, i < its.length → i ∉ op → X.2 21 i = nI (iTill (pAtI its i))) → (pFr R X) → J C (rM o M0 ((sgR X (a + 1, true)))) 0 0 83 [some (.ref o), some (.int (nI (its.length)))] [] from j_R (sg_self (σ := (a + 1, true)) rfl h13) (K ((ra (rs (rs (rs (lyR R (its.length) (5) (a)) 12 (nI (a + 1))) 14 (nI ((op.length) + (1)))) 15 (nI (max dp (op.length + 1)))) 19 (its.length) (nI (cos.length)))) (rfl) (rfl) (rfl) (h22) (ln_fr hL (pFr_ra (pFr_rs (pFr_rs (pFr_rs (pFr_ly pFr_refl) (by decide)) (by decide)) (by decide)) (by decide))) (fun i hi => ⟨(pk_un (by omega)).trans (hits i hi).1, (pk_un (by omega)).trans (hits i hi).2.1, (pk_un (by omega)).trans ((pk_un (by omega)).trans (hits i hi).2.2.1), (pk_un (by omega)).trans (hits i hi).2.2.2⟩) (⟨pk_us, pk_us, pk_us⟩) (hcos) (htil) (pFr_ra (pFr_rs (pFr_rs (pFr_rs (pFr_ly pFr_refl) (by decide)) (by decide)) (by decide)) (by decide)))
    intro X hX14 hX15 hX16 hX22 hXl hXi hXn hXc hXt hXf
    have h1a : ((a + 1, true) : pS).1 ≤ L.length := hal
    refine j_aload_n hC dX10_bracket_83 rfl (jrf_ref _) ?_
    refine r_cv0 hC kv_X10_184 dX10_bracket_84 (m_X10_condition (R := X) (σ := (a + 1, true)) (m := cos.length) hXl (by omega) (hX22) (by omega)) hB rfl (by omega) (Nat.le_of_ble_eq_true rfl) ?_
    have hb3a := pF_b (σ := (pCond L (a + 1, true)))
    have hb3c : (pCond L (a + 1, true)).1 ≤ L.length := pCond_le (by omega)
    have hb3e := pCond_mo (L := L) (σ := (a + 1, true))
    suffices K : ∀ (n9a : Nat) (cs : List pCo) (τ : pS) (f : Nat), f < n9a → (τ.1 ≤ L.length) → (cos.length + cs.length ≤ τ.1) → (its.length + 1 ≤ τ.1) → (a + 1 ≤ τ.1) → (L.length < τ.1 + f) → ((pOpen L a).1 = cs ++ (pMore L f τ).1 ∧ (pMore L 121 (pCond L (a + 1, true))).2 = (pMore L f τ).2) → J C (rM o M0 (sgR (coLR X cos.length cs) τ)) 0 0 87 [some (.ref o), some (.int (nI (its.length)))] [] from j_R (rfl) (K _ ([pCondC L (a + 1, true)]) ((pCond L (a + 1, true))) (121) (Nat.lt_succ_self _) (by assumption) (by show cos.length + 1 ≤ _; have e : a + 1 ≤ (pCond L (a + 1, true)).1 := pCond_mo (L := L) (σ := (a + 1, true)); omega) (by have e : a + 1 ≤ (pCond L (a + 1, true)).1 := pCond_mo (L := L) (σ := (a + 1, true)); omega) (pCond_mo (L := L) (σ := (a + 1, true))) (by omega) (⟨rfl, rfl⟩))
    intro n9a
    induction n9a with
    | zero => intro cs τ f hm; omega
    | succ n9a iha =>
      intro cs τ f hma hτ hlen hlen2 hat hf heq
      refine j_aload_n hC dX10_bracket_87 rfl (jrf_ref _) ?_
      refine j_bipush (v := nI 38) hC dX10_bracket_88 (by decide) ?_
      refine r_ci1 hC kv_X10_159 dX10_bracket_90 (m_X10_isNext (R := (coLR X cos.length cs)) (σ := τ) (c := 38) (ln_fr hXl (pFr_coL pFr_refl)) hτ (by omega) (by omega)) hB rfl (by omega) (Nat.le_of_ble_eq_true rfl) ?_
      have hb4a := pF_b (σ := (pNext L (38) τ))
      have hb4b := hereZ_b hLc (i := (pNext L (38) τ).1)
      have hb4c : (pNext L (38) τ).1 ≤ L.length := pNext_le (by omega) hτ
      refine jb_if_eq (tgt := 103) hC dX10_bracket_93 (by decide) (fun c5 => ?_) (fun c5 => ?_)
      · refine j_R (R' := (sgR (coLR X cos.length cs) τ)) (by rw [pNext_no (by assumption)]) ?_
        have hy : ¬ pNx L 38 τ = true := by assumption
        have hcs : (pOpen L a).1 = cs := by rw [heq.1, pMore_no hy, List.append_nil]
        have hτ2 : (pOpen L a).2 = pWant L 58 τ := by
          show pWant L 58 (pMore L 121 (pCond L (a + 1, true))).2 = _
          rw [heq.2, pMore_no hy]
        refine j_aload_n hC dX10_bracket_103 rfl (jrf_ref _) ?_
        refine r_get hC kf_X10_41 dX10_bracket_104 rfl ?_
        refine j_iload_n hC dX10_bracket_107 rfl ?_
        refine j_aload_n hC dX10_bracket_108 rfl (jrf_ref _) ?_
        refine r_getN (x := nI (cos.length + cs.length)) hC kf_X10_165 dX10_bracket_109 rfl (coLR_22 hX22) ?_
        refine r_ast (k := 20) (j := its.length) hC dX10_bracket_112 (c := 10) (n := 120) (by decide) (fun _ => rfl) (rO_k20) hB rfl (by omega) (by decide) ?_
        refine j_R (R' := (sgR (ra (coLR X cos.length cs) 20 (its.length) (nI (cos.length + cs.length))) τ)) (rfl) ?_
        refine j_aload_n hC dX10_bracket_113 rfl (jrf_ref _) ?_
        refine j_bipush (v := nI 58) hC dX10_bracket_114 (by decide) ?_
        refine r_cv1 hC kv_X10_171 dX10_bracket_116 (m_X10_wants (R := (ra (coLR X cos.length cs) 20 (its.length) (nI (cos.length + cs.length)))) (σ := τ) (c := 58) (ln_fr hXl (pFr_ra (pFr_coL pFr_refl) (by decide))) hτ (by omega) (by omega)) hB rfl (by omega) (Nat.le_of_ble_eq_true rfl) ?_
        have hb6a := pF_b (σ := (pWant L (58) τ))
        have hb6b := hereZ_b hLc (i := (pWant L (58) τ).1)
        have hb6c : (pWant L (58) τ).1 ≤ L.length := pWant_le (by omega) hτ
        suffices K : ∀ (n9b : Nat) (R2 : rR) (P2 : pP), wM L P2 < n9b → (prR R2 L P2) → (pFr R R2) → (∃ k, P2 = pIter L k ((a, true), its, cos, op, dp)) → ((pσ P2).2 = true → pOp P2 = its.length :: op) → ((pσ P2).2 = true → a < (pσ P2).1) → J C (rM o M0 (R2)) 0 0 119 [some (.ref o), some (.int (nI (its.length)))] [] from j_R (rfl) (K _ ((sgR (ra (coLR X cos.length cs) 20 (its.length) (nI (cos.length + cs.length))) (pWant L (58) τ))) ((pWant L 58 τ, its ++ [(5, a, op, cos.length, cos.length + cs.length, 0)], cos ++ cs, its.length :: op, max dp (op.length + 1))) (Nat.lt_succ_self _) (pr_open (R := R) hXl hX14 hX15 hX16 hX22 hXi hXn hXc hXt hmem hτ hlen hlen2 h4 hdl) (pFr_sg (pFr_ra (pFr_coL hXf) (by decide))) (⟨1, (br_op hc hal (by omega) hcs hτ2).symm⟩) (fun _ => rfl) (fun _ => Nat.lt_of_lt_of_le (show a < τ.1 from hat) pWant_mo))
        intro n9b
        induction n9b with
        | zero => intro R2 P2 hm; omega
        | succ n9b ihb =>
          intro R2 P2 hmb hq hq2 hq3 hq4 hq5
          have hs2 := sg_self (R := R2) hq.2.1 hq.2.2.1
          have hpf := pF_b (σ := pσ P2)
          have hhz := hereZ_b hLc (i := (pσ P2).1)
          have hle2 := hq.2.2.2.1
          refine j_aload_n hC dX10_bracket_119 rfl (jrf_ref _) ?_
          refine r_getN (x := zI (pF (pσ P2))) hC kf_X10_153 dX10_bracket_120 rfl (hq.2.2.1) ?_
          refine z_if_ge (a := (pF (pσ P2))) (tgt := 149) hC dX10_bracket_123 (by decide) (by unfold zB; omega) (fun c7 => ?_) (fun c7 => ?_)
          · refine j_R (R' := (sgR R2 (pσ P2))) (hs2) ?_
            refine j_aload_n hC dX10_bracket_149 rfl (jrf_ref _) ?_
            refine j_bipush (v := nI 93) hC dX10_bracket_150 (by decide) ?_
            refine r_cv1 hC kv_X10_171 dX10_bracket_152 (m_X10_wants (R := R2) (σ := (pσ P2)) (c := 93) hq.1 hle2 (by omega) (by omega)) hB rfl (by omega) (Nat.le_of_ble_eq_true rfl) ?_
            have hb8a := pF_b (σ := (pWant L (93) (pσ P2)))
            have hb8b := hereZ_b hLc (i := (pWant L (93) (pσ P2)).1)
            have hb8c : (pWant L (93) (pσ P2)).1 ≤ L.length := pWant_le (by omega) hle2
            refine j_aload_n hC dX10_bracket_155 rfl (jrf_ref _) ?_
            refine j_dup hC dX10_bracket_156 rfl ?_
            refine r_get hC kf_X10_175 dX10_bracket_157 rfl ?_
            refine j_iconst (v := nI 1) hC dX10_bracket_160 (by decide) ?_
            refine j_isub hC dX10_bracket_161 ?_
            refine r_put hC kp_X10_175 dX10_bracket_162 hB rfl rfl rF_set_14 ?_
            refine j_aload_n hC dX10_bracket_165 rfl (jrf_ref _) ?_
            refine r_get hC kf_X10_44 dX10_bracket_166 rfl ?_
            refine j_iload_n hC dX10_bracket_169 rfl ?_
            refine j_aload_n hC dX10_bracket_170 rfl (jrf_ref _) ?_
            refine r_get hC kf_X10_162 dX10_bracket_171 rfl ?_
            refine r_ast (k := 21) (j := its.length) hC dX10_bracket_174 (c := 11) (n := 120) (by decide) (fun _ => rfl) (rO_k21) hB rfl (by omega) (by decide) ?_
            exact j_vret hC9 rfl dX10_bracket_175 ⟨(ra (rs (sgR R2 (pWant L (93) (pσ P2))) 14 (((sgR R2 (pWant L (93) (pσ P2))).1 14 - nI (1)))) 21 (its.length) ((rs (sgR R2 (pWant L (93) (pσ P2))) 14 (((sgR R2 (pWant L (93) (pσ P2))).1 14 - nI (1)))).1 16)), brk_a hq hq2 hq3 (by assumption), rfl⟩
          · refine j_R (R' := (sgR R2 (pσ P2))) (hs2) ?_
            refine j_aload_n hC dX10_bracket_126 rfl (jrf_ref _) ?_
            refine r_ci0 hC kv_X10_156 dX10_bracket_127 (m_X10_here (R := R2) (σ := (pσ P2)) hq.1 hle2) hB rfl (by omega) (Nat.le_of_ble_eq_true rfl) ?_
            refine z_if_lt (a := (hereZ L (pσ P2).1)) (tgt := 149) hC dX10_bracket_130 (by decide) (by unfold zB; omega) (fun c9 => ?_) (fun c9 => ?_)
            · have hok9 : (pσ P2).2 = true := pF_neg (by assumption)
              have h14b : R2.1 14 = nI (op.length + 1) := by rw [(hq.2.2.2.2 hok9).1, hq4 hok9]; rfl
              have h16b : R2.1 16 = nI (pIts P2).length := (hq.2.2.2.2 hok9).2.2.1
              refine j_aload_n hC dX10_bracket_149 rfl (jrf_ref _) ?_
              refine j_bipush (v := nI 93) hC dX10_bracket_150 (by decide) ?_
              refine r_cv1 hC kv_X10_171 dX10_bracket_152 (m_X10_wants (R := R2) (σ := (pσ P2)) (c := 93) hq.1 hle2 (by omega) (by omega)) hB rfl (by omega) (Nat.le_of_ble_eq_true rfl) ?_
              have hb10a := pF_b (σ := (pWant L (93) (pσ P2)))
              have hb10b := hereZ_b hLc (i := (pWant L (93) (pσ P2)).1)
              have hb10c : (pWant L (93) (pσ P2)).1 ≤ L.length := pWant_le (by omega) hle2
              refine j_aload_n hC dX10_bracket_155 rfl (jrf_ref _) ?_
              refine j_dup hC dX10_bracket_156 rfl ?_
              refine r_getN (x := nI (op.length + 1)) hC kf_X10_175 dX10_bracket_157 rfl (h14b) ?_
              refine j_iconst (v := nI 1) hC dX10_bracket_160 (by decide) ?_
              refine n_isub hC dX10_bracket_161 (by omega) ?_
              refine r_put hC kp_X10_175 dX10_bracket_162 hB rfl rfl rF_set_14 ?_
              refine j_aload_n hC dX10_bracket_165 rfl (jrf_ref _) ?_
              refine r_get hC kf_X10_44 dX10_bracket_166 rfl ?_
              refine j_iload_n hC dX10_bracket_169 rfl ?_
              refine j_aload_n hC dX10_bracket_170 rfl (jrf_ref _) ?_
              refine r_getN (x := nI ((pIts P2).length)) hC kf_X10_162 dX10_bracket_171 rfl (h16b) ?_
              refine r_ast (k := 21) (j := its.length) hC dX10_bracket_174 (c := 11) (n := 120) (by decide) (fun _ => rfl) (rO_k21) hB rfl (by omega) (by decide) ?_
              exact j_vret hC9 rfl dX10_bracket_175 ⟨(ra (rs (sgR R2 (pWant L (93) (pσ P2))) 14 (nI ((op.length + 1) - (1)))) 21 (its.length) (nI ((pIts P2).length))), brk_b hq hq2 hq3 (by assumption) hq4 (by assumption), rfl⟩
            · refine j_aload_n hC dX10_bracket_133 rfl (jrf_ref _) ?_
              refine r_ci0 hC kv_X10_156 dX10_bracket_134 (m_X10_here (R := R2) (σ := (pσ P2)) hq.1 hle2) hB rfl (by omega) (Nat.le_of_ble_eq_true rfl) ?_
              refine j_bipush (v := nI 93) hC dX10_bracket_137 (by decide) ?_
              refine z_icmp_eq (a := (hereZ L (pσ P2).1)) (b := ((93 : Nat) : Int)) (tgt := 149) hC dX10_bracket_139 (by decide) (by unfold zB; omega) (by unfold zB; omega) (fun c11 => ?_) (fun c11 => ?_)
              · have hok9 : (pσ P2).2 = true := pF_neg (by assumption)
                have h14b : R2.1 14 = nI (op.length + 1) := by rw [(hq.2.2.2.2 hok9).1, hq4 hok9]; rfl
                have h16b : R2.1 16 = nI (pIts P2).length := (hq.2.2.2.2 hok9).2.2.1
                refine j_aload_n hC dX10_bracket_149 rfl (jrf_ref _) ?_
                refine j_bipush (v := nI 93) hC dX10_bracket_150 (by decide) ?_
                refine r_cv1 hC kv_X10_171 dX10_bracket_152 (m_X10_wants (R := R2) (σ := (pσ P2)) (c := 93) hq.1 hle2 (by omega) (by omega)) hB rfl (by omega) (Nat.le_of_ble_eq_true rfl) ?_
                have hb12a := pF_b (σ := (pWant L (93) (pσ P2)))
                have hb12b := hereZ_b hLc (i := (pWant L (93) (pσ P2)).1)
                have hb12c : (pWant L (93) (pσ P2)).1 ≤ L.length := pWant_le (by omega) hle2
                refine j_aload_n hC dX10_bracket_155 rfl (jrf_ref _) ?_
                refine j_dup hC dX10_bracket_156 rfl ?_
                refine r_getN (x := nI (op.length + 1)) hC kf_X10_175 dX10_bracket_157 rfl (h14b) ?_
                refine j_iconst (v := nI 1) hC dX10_bracket_160 (by decide) ?_
                refine n_isub hC dX10_bracket_161 (by omega) ?_
                refine r_put hC kp_X10_175 dX10_bracket_162 hB rfl rfl rF_set_14 ?_
                refine j_aload_n hC dX10_bracket_165 rfl (jrf_ref _) ?_
                refine r_get hC kf_X10_44 dX10_bracket_166 rfl ?_
                refine j_iload_n hC dX10_bracket_169 rfl ?_
                refine j_aload_n hC dX10_bracket_170 rfl (jrf_ref _) ?_
                refine r_getN (x := nI ((pIts P2).length)) hC kf_X10_162 dX10_bracket_171 rfl (h16b) ?_
                refine r_ast (k := 21) (j := its.length) hC dX10_bracket_174 (c := 11) (n := 120) (by decide) (fun _ => rfl) (rO_k21) hB rfl (by omega) (by decide) ?_
                exact j_vret hC9 rfl dX10_bracket_175 ⟨(ra (rs (sgR R2 (pWant L (93) (pσ P2))) 14 (nI ((op.length + 1) - (1)))) 21 (its.length) (nI ((pIts P2).length))), brk_c hq hq2 hq3 (by assumption) hq4 hq5 (by assumption) rfl rfl, rfl⟩
              · have hok2 : (pσ P2).2 = true := pF_neg (by assumption)
                have hlt2 : (pσ P2).1 < L.length := here_lt (by assumption)
                have hn93 : ¬ pC L (pσ P2).1 = 93 := fun e => absurd ((here_iff hLc (by decide)).mpr e) (by assumption)
                have hqs : prR (sgR R2 (pσ P2)) L P2 := by rw [← hs2]; exact hq
                have hol2 : (pOp P2).length = op.length + 1 := by rw [hq4 hok2]; rfl
                refine j_aload_n hC dX10_bracket_142 rfl (jrf_ref _) ?_
                refine r_call hC kv_X10_187 dX10_bracket_143 (hI h4 (sgR R2 (pσ P2)) P2 hqs hok2 hlt2 hn93 hol2) rfl rfl hB rfl (by omega) (Nat.le_of_ble_eq_true rfl) ?_
                intro v9 R9 h9
                obtain ⟨rfl, m9, hp9, hf9, hx9⟩ := h9
                have hmz : wM L (pIter L m9 P2) < wM L P2 := wM_lt hok2 hp9.2.2.2.1 (fun e => (hx9 e).2)
                refine j_goto (tgt := 119) hC dX10_bracket_146 (by decide) ?_
                exact j_R (rfl) (ihb (R9) (pIter L m9 P2) (by omega) (hp9) (pFr_trans (pFr_sg hq2) hf9) (by obtain ⟨k, hk⟩ := hq3; exact ⟨k + m9, by rw [pIter_add, ← hk]⟩) (fun e => (hx9 e).1.trans (hq4 hok2)) (fun e => Nat.lt_trans (hq5 hok2) (hx9 e).2))
      · have hx : pNx L 38 τ = true := by assumption
        have hx1 : τ.1 < L.length := lt_of_pC (by rw [(pNx_iff.mp hx).2]; decide)
        have hx2 : (pNext L 38 τ).1 = τ.1 + 1 := by rw [pNext_of hx]
        refine j_aload_n hC dX10_bracket_96 rfl (jrf_ref _) ?_
        refine r_cv0 hC kv_X10_184 dX10_bracket_97 (m_X10_condition (R := (coLR X cos.length cs)) (σ := (pNext L (38) τ)) (m := cos.length + cs.length) (ln_fr hXl (pFr_coL pFr_refl)) (pNext_le (by omega) (by omega)) (coLR_22 hX22) (by omega)) hB rfl (by omega) (Nat.le_of_ble_eq_true rfl) ?_
        have hb13a := pF_b (σ := (pCond L (pNext L (38) τ)))
        have hb13c : (pCond L (pNext L (38) τ)).1 ≤ L.length := pCond_le (pNext_le (by omega) (by omega))
        have hb13e := pCond_mo (L := L) (σ := (pNext L (38) τ))
        refine j_goto (tgt := 87) hC dX10_bracket_100 (by decide) ?_
        exact j_R (by rw [coLR_app]) (iha (cs ++ [pCondC L (pNext L 38 τ)]) (pCond L (pNext L 38 τ)) (f - 1) (by omega) (by assumption) (by rw [List.length_append]; show cos.length + (cs.length + 1) ≤ _; omega) (by omega) (by omega) (by omega) (by rw [pMore_s (by omega) hx] at heq; exact ⟨by rw [heq.1, List.append_assoc]; rfl, heq.2⟩))
  · refine j_aload_n hC dX10_bracket_8 rfl (jrf_ref _) ?_
    refine j_aload_n hC dX10_bracket_9 rfl (jrf_ref _) ?_
    refine r_getN (x := nI (a)) hC kf_X10_147 dX10_bracket_10 rfl (h12) ?_
    refine r_put hC kp_X10_153 dX10_bracket_13 hB rfl rfl rF_set_13 ?_
    exact j_vret hC9 rfl dX10_bracket_16 ⟨(rs R 13 (nI (a))), it_bad (n := 1) (i := a) hr (pFr_rs pFr_refl (by decide)) h12 rfl (by omega) ((pIter_1 (pRuns_of rfl (Or.inl hal))).trans ((if_pos hc).trans (if_pos (by assumption)))), rfl⟩
