theorem hereN {L : List Nat} {i : Nat} (h : i < L.length) : zI (hereZ L i) = nI (pC L i) := by
  rw [hereZ, if_pos h]
  rfl
theorem hereZ_nat {L : List Nat} {i : Nat} : (hereZ L i).toNat = pC L i := by
  unfold hereZ
  by_cases h : i < L.length
  · rw [if_pos h]; rfl
  · rw [if_neg h, pC_out (by omega)]; rfl
def kdZ (c : Nat) : Int := match pKind c with
  | none => -1
  | some k => k
theorem kdZ_b {c : Nat} : -1 ≤ kdZ c ∧ kdZ c ≤ 4 := by
  unfold kdZ pKind
  by_cases h1 : c = 35
  · rw [if_pos h1]; exact ⟨by decide, by decide⟩
  · rw [if_neg h1]
    by_cases h2 : c = 64
    · rw [if_pos h2]; exact ⟨by decide, by decide⟩
    · rw [if_neg h2]
      by_cases h3 : c = 123
      · rw [if_pos h3]; exact ⟨by decide, by decide⟩
      · rw [if_neg h3]
        by_cases h4 : c = 60
        · rw [if_pos h4]; exact ⟨by decide, by decide⟩
        · rw [if_neg h4]
          by_cases h5 : isLit c = true
          · rw [if_pos h5]; exact ⟨by decide, by decide⟩
          · rw [if_neg h5]; exact ⟨by decide, by decide⟩
theorem kdZ_some {c : Nat} (h : 0 ≤ kdZ c) : ∃ k, pKind c = some k := by
  unfold kdZ at h
  cases hk : pKind c with
  | none => rw [hk] at h; exact absurd h (by decide)
  | some k => exact ⟨k, rfl⟩
theorem kdZ_none {c : Nat} (h : kdZ c < 0) : pKind c = none := by
  unfold kdZ at h
  cases hk : pKind c with
  | none => rfl
  | some k => rw [hk] at h; simp only at h; omega
theorem kdZ_eq {c k : Nat} (h : pKind c = some k) : zI (kdZ c) = nI k := by
  rw [kdZ, h]
  rfl
theorem pKind_le {c k : Nat} (h : pKind c = some k) : k ≤ 4 := by
  have h2 := (kdZ_b (c := c)).2
  rw [kdZ, h] at h2
  simp only at h2
  omega
section ITF
variable {R X F : rR} {L : List Nat} {a dp k one two : Nat} {its : List pIt} {cos : List pCo} {op : List Nat} {τ : pS}
theorem it_none (hal : a < L.length) (h91 : ¬ pC L a = 91) (h93 : pC L a = 93 → op.length = 0) (h : pKind (pC L a) = none) : pIter L 1 ((a, true), its, cos, op, dp) = pBad ((a, true), its, cos, op, dp) (a, false) := by
  rw [pIter_1 (pRuns_of rfl (Or.inl hal)), pStep1, if_neg h91]
  by_cases e : pC L a = 93
  · rw [if_pos e]
    have ho : op = [] := List.eq_nil_of_length_eq_zero (h93 e)
    subst ho
    rfl
  · rw [if_neg e, h]
theorem it_some (hal : a < L.length) (h91 : ¬ pC L a = 91) (h : pKind (pC L a) = some k) : pIter L 1 ((a, true), its, cos, op, dp) = (pEndσ L k a, its ++ [(k, a, op, pOne L k a, pTwo L k a, its.length + 1)], cos, op, dp) := by
  have e : ¬ pC L a = 93 := by
    intro e
    have e0 : pKind 93 = none := by decide
    rw [e, e0] at h
    cases h
  rw [pIter_1 (pRuns_of rfl (Or.inl hal)), pStep1, if_neg h91, if_neg e, h]
theorem it_fin (hFf : pFr R F) (hFl : lnR F L) (hal : a < L.length) (h91 : ¬ pC L a = 91) (hk : pKind (pC L a) = some k) (hE : pEndσ L k a = τ) (h1 : pOne L k a = one) (h2 : pTwo L k a = two) (hτ : τ.1 ≤ L.length) (hat : a < τ.1) (hil : its.length ≤ a) (hcl : cos.length ≤ a) (hol : op.length ≤ 4) (hdl : dp ≤ 4) (hm : ∀ i ∈ op, i < its.length)
    (h12 : F.1 12 = nI τ.1) (h13 : F.1 13 = zI (pF τ)) (h14 : F.1 14 = nI op.length) (h15 : F.1 15 = nI dp) (h16 : F.1 16 = nI (its.length + 1)) (h22 : F.1 22 = nI cos.length)
    (hi : ∀ i, i < its.length → itR F i (pAtI its i)) (hn : F.2 17 its.length = nI k ∧ F.2 18 its.length = nI a ∧ F.2 19 its.length = nI one ∧ F.2 20 its.length = nI two ∧ F.2 21 its.length = nI (its.length + 1)) (hc : ∀ j, j < cos.length → cdR F j (pAtC cos j)) (ht : ∀ i, i < its.length → i ∉ op → F.2 21 i = nI (iTill (pAtI its i))) : itP R L ((a, true), its, cos, op, dp) none F := by
  have e9 := it_some (its := its) (cos := cos) (op := op) (dp := dp) hal h91 hk
  rw [hE, h1, h2] at e9
  refine ⟨rfl, 1, ?_, hFf, fun _ => ?_⟩
  · rw [e9]
    refine ⟨hFl, h12, h13, hτ, fun _ => ⟨h14, h15, ?_, h22, fun i hi2 => ?_, hc, ?_, ?_, hol, hdl, fun i hi2 => ?_, fun i hi2 hi3 => ?_⟩⟩
    · show F.1 16 = nI (its ++ [_]).length
      rw [List.length_append]; exact h16
    · have hi3 : i < its.length + 1 := by
        have e : i < (its ++ [((k, a, op, one, two, its.length + 1) : pIt)]).length := hi2
        rwa [List.length_append] at e
      show itR F i (pAtI (its ++ [_]) i)
      by_cases e : i < its.length
      · rw [pAtI_app e]
        exact hi i e
      · obtain rfl : i = its.length := by omega
        rw [pAtI_new]
        exact ⟨hn.1, hn.2.1, hn.2.2.1, hn.2.2.2.1⟩
    · show (its ++ [_]).length ≤ τ.1
      rw [List.length_append]
      show its.length + 1 ≤ _
      omega
    · show cos.length ≤ τ.1
      omega
    · show i < (its ++ [_]).length
      rw [List.length_append]
      exact Nat.lt_succ_of_lt (hm i hi2)
    · have hi4 : i < its.length + 1 := by
        have e : i < (its ++ [((k, a, op, one, two, its.length + 1) : pIt)]).length := hi2
        rwa [List.length_append] at e
      show F.2 21 i = nI (iTill (pAtI (its ++ [_]) i))
      by_cases e : i < its.length
      · rw [pAtI_app e]
        exact ht i e hi3
      · obtain rfl : i = its.length := by omega
        rw [pAtI_new]
        exact hn.2.2.2.2
  · rw [e9]
    exact ⟨rfl, hat⟩
end ITF
theorem pLit_no {L : List Nat} {f i : Nat} (h : ¬ isLit (pC L i) = true) : pLit L f i = i := by
  cases f with
  | zero => rfl
  | succ f => exact if_neg h
theorem pLit_s {L : List Nat} {f i : Nat} (hf : 0 < f) (h : isLit (pC L i) = true) : pLit L f i = pLit L (f - 1) (i + 1) := by
  cases f with
  | zero => omega
  | succ f => exact if_pos h
def litE (L : List Nat) (f : Nat) (τ : pS) : pS := if τ.2 = true then (pLit L f τ.1, true) else τ
theorem litE_no {L : List Nat} {f : Nat} {τ : pS} (h : 0 ≤ pF τ ∨ ¬ isLit (pC L τ.1) = true) : litE L f τ = τ := by
  unfold litE
  by_cases e : τ.2 = true
  · rw [if_pos e]
    rcases h with h | h
    · rw [pF_nn h] at e; exact absurd e (by decide)
    · rw [pLit_no h, ← e]
  · rw [if_neg e]
theorem litE_s {L : List Nat} {f : Nat} {τ : pS} (hf : 0 < f) (h0 : pF τ < 0) (h : isLit (pC L τ.1) = true) : litE L f τ = litE L (f - 1) (τ.1 + 1, true) := by
  unfold litE
  rw [if_pos (pF_neg h0), if_pos rfl, pLit_s hf h]
theorem lit_lt {L : List Nat} {i : Nat} (h : isLit (pC L i) = true) : i < L.length := by
  refine lt_of_pC ?_
  have := (of_decide_eq_true h).1
  omega
theorem litE_1 {L : List Nat} {f : Nat} {τ : pS} : (litE L f τ).1 = if τ.2 = true then pLit L f τ.1 else τ.1 := by
  unfold litE
  split <;> rfl
set_option maxHeartbeats 4000000 in
set_option maxRecDepth 100000 in
theorem m_X10_item {R : rR} {L : List Nat} {P : pP} {dB dI : Nat} (h4d : 4 ≤ dI) (hdB : dB + 1 ≤ dI) (hr : prR R L P) (hw : (pσ P).2 = true) (hal : (pσ P).1 < L.length) (h93 : pC L (pσ P).1 = 93 → (pOp P).length = 0) (hBk : pC L (pσ P).1 = 91 → RMet jX10_bracket dB [] R (itP R L P)) : RMet jX10_item dI [] R (itP R L P) := by
  intro G o M0 hs hBo
  refine jMet_of [some (.ref o), none, none, none] (by decide) rfl (Nat.le_of_ble_eq_true rfl) rfl hs ?_
  intro C hC9 hG
  have hC := hC9.z
  have hB : jB C ≤ o := by rw [jB, hG]; exact hBo
  obtain ⟨⟨a, w⟩, its, cos, op, dp⟩ := P
  have hL := hr.1
  have hLc := hL.2.2.2
  have hL120 := hL.2.2.1
  have hw1 : w = true := hw
  subst hw1
  have h12 : R.1 12 = nI a := hr.2.1
  have h13 : R.1 13 = zI (-1) := hr.2.2.1
  obtain ⟨h14, h15, h16, h22, hits, hcos, hil, hcl, hol, hdl, hmem, htil⟩ := hr.2.2.2.2 rfl
  have h14 : R.1 14 = nI op.length := h14
  have h15 : R.1 15 = nI dp := h15
  have h16 : R.1 16 = nI its.length := h16
  have h22 : R.1 22 = nI cos.length := h22
  have hil : its.length ≤ a := hil
  have hcl : cos.length ≤ a := hcl
  have hol : op.length ≤ 4 := hol
  have hdl : dp ≤ 4 := hdl
  have hal : a < L.length := hal
  have h93 : pC L a = 93 → op.length = 0 := h93
  have h1a : ((a, true) : pS).1 ≤ L.length := Nat.le_of_lt hal
  have hle9 : ((a + 1, true) : pS).1 ≤ L.length := hal
  have hat9 : a < ((a + 1, true) : pS).1 := Nat.lt_succ_self a
  have hsR : R = sgR R (a, true) := sg_self h12 h13
  have hhz := hereZ_b hLc (i := a)
  have hpc := pC_le hLc (i := a)
  have hkb := kdZ_b (c := pC L a)
  refine j_R (R' := (sgR R (a, true))) (hsR) ?_
  refine j_aload_n hC dX10_item_0 rfl (jrf_ref _) ?_
  refine r_ci0 hC kv_X10_156 dX10_item_1 (m_X10_here (R := R) (σ := (a, true)) hL h1a) hB rfl (by omega) (Nat.le_of_ble_eq_true rfl) ?_
  refine j_top (hereN (i := a) hal) ?_
  refine j_istore_n1 hC dX10_item_4 (by decide) rfl ?_
  refine j_iload_n hC dX10_item_5 rfl ?_
  refine j_bipush (v := nI 91) hC dX10_item_6 (by decide) ?_
  refine n_icmp_ne (tgt := 16) hC dX10_item_8 (by decide) (by omega) (by omega) (fun c1 => ?_) (fun c1 => ?_)
  · have h91 : ¬ pC L a = 91 := by assumption
    refine j_iload_n hC dX10_item_16 rfl ?_
    refine j_bipush (v := nI 35) hC dX10_item_17 (by decide) ?_
    suffices K : J C (rM o M0 ((sgR R (a, true)))) 0 0 68 [some (.ref o), some (.int (nI (pC L a))), none, none] [.int (zI (kdZ (pC L a)))] by
      refine n_icmp_ne (tgt := 26) hC dX10_item_19 (by decide) (by omega) (by omega) (fun c2 => ?_) (fun c2 => ?_)
      · refine j_iload_n hC dX10_item_26 rfl ?_
        refine j_bipush (v := nI 64) hC dX10_item_27 (by decide) ?_
        refine n_icmp_ne (tgt := 36) hC dX10_item_29 (by decide) (by omega) (by omega) (fun c3 => ?_) (fun c3 => ?_)
        · refine j_iload_n hC dX10_item_36 rfl ?_
          refine j_bipush (v := nI 123) hC dX10_item_37 (by decide) ?_
          refine n_icmp_ne (tgt := 46) hC dX10_item_39 (by decide) (by omega) (by omega) (fun c4 => ?_) (fun c4 => ?_)
          · refine j_iload_n hC dX10_item_46 rfl ?_
            refine j_bipush (v := nI 60) hC dX10_item_47 (by decide) ?_
            refine n_icmp_ne (tgt := 56) hC dX10_item_49 (by decide) (by omega) (by omega) (fun c5 => ?_) (fun c5 => ?_)
            · refine j_iload_n hC dX10_item_56 rfl ?_
              refine s_ci1 hC ks_X10_193 dX10_item_57 (m_X10_isLiteral (z := ((pC L a : Nat) : Int)) (by omega) (by omega)) rfl (by omega) (Nat.le_of_ble_eq_true rfl) ?_
              refine j_top (rfl) ?_
              refine jb_if_eq (tgt := 67) hC dX10_item_60 (by decide) (fun c6 => ?_) (fun c6 => ?_)
              · refine j_iconst (v := zI (-1)) hC dX10_item_67 (by decide) ?_
                exact j_top (by rw [kdZ, pKind, if_neg (by assumption), if_neg (by assumption), if_neg (by assumption), if_neg (by assumption), if_neg (by assumption)]) K
              · refine j_iconst (v := nI 0) hC dX10_item_63 (by decide) ?_
                refine j_goto (tgt := 68) hC dX10_item_64 (by decide) ?_
                exact j_top (by rw [kdZ, pKind, if_neg (by assumption), if_neg (by assumption), if_neg (by assumption), if_neg (by assumption), if_pos (by assumption)]; rfl) K
            · refine j_iconst (v := nI 4) hC dX10_item_52 (by decide) ?_
              refine j_goto (tgt := 68) hC dX10_item_53 (by decide) ?_
              exact j_top (by rw [kdZ, pKind, if_neg (by assumption), if_neg (by assumption), if_neg (by assumption), if_pos (by assumption)]; rfl) K
          · refine j_iconst (v := nI 3) hC dX10_item_42 (by decide) ?_
            refine j_goto (tgt := 68) hC dX10_item_43 (by decide) ?_
            exact j_top (by rw [kdZ, pKind, if_neg (by assumption), if_neg (by assumption), if_pos (by assumption)]; rfl) K
        · refine j_iconst (v := nI 2) hC dX10_item_32 (by decide) ?_
          refine j_goto (tgt := 68) hC dX10_item_33 (by decide) ?_
          exact j_top (by rw [kdZ, pKind, if_neg (by assumption), if_pos (by assumption)]; rfl) K
      · refine j_iconst (v := nI 1) hC dX10_item_22 (by decide) ?_
        refine j_goto (tgt := 68) hC dX10_item_23 (by decide) ?_
        exact j_top (by rw [kdZ, pKind, if_pos (by assumption)]; rfl) K
    refine j_istore_n2 hC dX10_item_68 (by decide) rfl ?_
    refine j_iload_n hC dX10_item_69 rfl ?_
    refine z_if_ge (a := (kdZ (pC L a))) (tgt := 82) hC dX10_item_70 (by decide) (by unfold zB; omega) (fun c7 => ?_) (fun c7 => ?_)
    · obtain ⟨k, hk⟩ := kdZ_some (by assumption)
      rw [kdZ_eq hk]
      have hk4 := pKind_le hk
      refine j_aload_n hC dX10_item_82 rfl (jrf_ref _) ?_
      refine j_iload_n hC dX10_item_83 rfl ?_
      refine j_aload_n hC dX10_item_84 rfl (jrf_ref _) ?_
      refine r_getN (x := nI ((a, true).1)) hC kf_X10_147 dX10_item_85 rfl (rfl) ?_
      refine r_ci2 hC kv_X10_178 dX10_item_88 (m_X10_lays (R := (sgR R (a, true))) (n := its.length) (k := k) (p := (a, true).1) (h16) (by omega)) hB rfl (by omega) (Nat.le_of_ble_eq_true rfl) ?_
      refine j_istore_n3 hC dX10_item_91 (by decide) rfl ?_
      refine j_aload_n hC dX10_item_92 rfl (jrf_ref _) ?_
      refine j_dup hC dX10_item_93 rfl ?_
      refine r_getN (x := nI ((a, true).1)) hC kf_X10_147 dX10_item_94 rfl (rfl) ?_
      refine j_iconst (v := nI 1) hC dX10_item_97 (by decide) ?_
      refine n_iadd hC dX10_item_98 ?_
      refine r_put hC kp_X10_147 dX10_item_99 hB rfl rfl rF_set_12 ?_
      suffices K : ∀ (X : rR), (X.1 14 = nI op.length) → (X.1 15 = nI dp) → (X.1 16 = nI (its.length + 1)) → (X.1 22 = nI cos.length) → (lnR X L) → (∀ i, i < its.length → itR X i (pAtI its i)) → (X.2 17 its.length = nI k ∧ X.2 18 its.length = nI a ∧ X.2 19 its.length = nI 0 ∧ X.2 20 its.length = nI 0) → (∀ j, j < cos.length → cdR X j (pAtC cos j)) → (∀ i, i < its.length → i ∉ op → X.2 21 i = nI (iTill (pAtI its i))) → (pFr R X) → J C (rM o M0 ((sgR X (a + 1, true)))) 0 0 102 [some (.ref o), some (.int (nI (pC L a))), some (.int (nI (k))), some (.int (nI (its.length)))] [] from j_R (sg_self (σ := (a + 1, true)) rfl rfl) (K ((rs (lyR (sgR R (a, true)) (its.length) (k) ((a, true).1)) 12 (nI (((a, true).1) + (1))))) (h14) (h15) (rfl) (h22) (ln_fr hL (pFr_rs (pFr_ly (pFr_sg pFr_refl)) (by decide))) (fun i hi => ⟨(pk_un (by omega)).trans (hits i hi).1, (pk_un (by omega)).trans (hits i hi).2.1, (pk_un (by omega)).trans (hits i hi).2.2.1, (pk_un (by omega)).trans (hits i hi).2.2.2⟩) (⟨pk_us, pk_us, pk_us, pk_us⟩) (hcos) (htil) (pFr_rs (pFr_ly (pFr_sg pFr_refl)) (by decide)))
      intro X hX14 hX15 hX16 hX22 hXl hXi hXn hXc hXt hXf
      refine j_iload_n hC dX10_item_102 rfl ?_
      refine n_if_ne (tgt := 113) hC dX10_item_103 (by decide) (by omega) (fun c8 => ?_) (fun c8 => ?_)
      · refine j_iload_n hC dX10_item_113 rfl ?_
        refine j_iconst (v := nI 3) hC dX10_item_114 (by decide) ?_
        refine n_icmp_ne (tgt := 168) hC dX10_item_115 (by decide) (by omega) (by omega) (fun c9 => ?_) (fun c9 => ?_)
        · refine j_iload_n hC dX10_item_168 rfl ?_
          refine j_iconst (v := nI 4) hC dX10_item_169 (by decide) ?_
          refine n_icmp_ne (tgt := 265) hC dX10_item_170 (by decide) (by omega) (by omega) (fun c10 => ?_) (fun c10 => ?_)
          · refine j_aload_n hC dX10_item_265 rfl (jrf_ref _) ?_
            refine r_get hC kf_X10_44 dX10_item_266 rfl ?_
            refine j_iload_n hC dX10_item_269 rfl ?_
            refine j_aload_n hC dX10_item_270 rfl (jrf_ref _) ?_
            refine r_getN (x := nI (its.length + 1)) hC kf_X10_162 dX10_item_271 rfl (hX16) ?_
            refine r_ast (k := 21) (j := its.length) hC dX10_item_274 (c := 11) (n := 120) (by decide) (fun _ => rfl) (rO_k21) hB rfl (by omega) (by decide) ?_
            exact j_vret hC9 rfl dX10_item_275 ⟨(ra (sgR X (a + 1, true)) 21 (its.length) (nI (its.length + 1))), it_fin (τ := (a + 1, true)) (one := 0) (two := 0) (pFr_trans hXf (pFr_ra (pFr_sg (pFr_refl)) (by decide))) (ln_fr hXl (pFr_ra (pFr_sg (pFr_refl)) (by decide))) hal h91 hk (by rw [pEndσ, if_neg (by assumption), if_neg (by assumption)]) (by rw [pOne, if_neg (by assumption), if_neg (by assumption), if_neg (by assumption)]) (by rw [pTwo, if_neg (by assumption), if_neg (by assumption)]) hle9 hat9 hil hcl hol hdl hmem rfl rfl hX14 hX15 hX16 hX22 (fun i hi => ⟨(hXi i hi).1, (hXi i hi).2.1, (by first | exact (hXi i hi).2.2.1 | exact (pk_un (by omega)).trans (hXi i hi).2.2.1), (by first | exact (hXi i hi).2.2.2 | exact (pk_un (by omega)).trans (hXi i hi).2.2.2)⟩) ⟨hXn.1, hXn.2.1, (by first | exact pk_us | exact hXn.2.2.1), (by first | exact pk_us | exact hXn.2.2.2), pk_us⟩ hXc (fun i hi h => (pk_un (by omega)).trans (hXt i hi h)), rfl⟩
          · suffices K : ∀ (n9a : Nat) (τ1 : pS) (f1 : Nat), f1 < n9a → (τ1.1 ≤ L.length) → (τ1.2 = true) → (a + 1 ≤ τ1.1) → (L.length ≤ τ1.1 + f1) → (pLit L 120 (a + 1) = pLit L f1 τ1.1) → J C (rM o M0 (sgR X τ1)) 0 0 173 [some (.ref o), some (.int (nI (pC L a))), some (.int (nI (k))), some (.int (nI (its.length)))] [] from j_R (rfl) (K _ ((a + 1, true)) (120) (Nat.lt_succ_self _) (hle9) (rfl) (Nat.le_refl _) (by show L.length ≤ a + 1 + 120; omega) (rfl))
            intro n9a
            induction n9a with
            | zero => intro τ1 f1 hm; omega
            | succ n9a iha =>
              intro τ1 f1 hma hτ1 hok1 hmo1 hf1 hE1
              have hk0 : k = 4 := by assumption
              have hz1 := hereZ_b hLc (i := τ1.1)
              have hp1 := pF_b (σ := τ1)
              refine j_aload_n hC dX10_item_173 rfl (jrf_ref _) ?_
              refine r_getN (x := zI (pF τ1)) hC kf_X10_153 dX10_item_174 rfl (rfl) ?_
              refine z_if_ge (a := (pF τ1)) (tgt := 203) hC dX10_item_177 (by decide) (by unfold zB; omega) (fun c11 => ?_) (fun c11 => ?_)
              · exact absurd hok1 (by rw [pF_nn (by assumption)]; decide)
              · refine j_aload_n hC dX10_item_180 rfl (jrf_ref _) ?_
                refine r_ci0 hC kv_X10_156 dX10_item_181 (m_X10_here (R := X) (σ := τ1) hXl hτ1) hB rfl (by omega) (Nat.le_of_ble_eq_true rfl) ?_
                refine s_ci1 hC ks_X10_193 dX10_item_184 (m_X10_isLiteral (z := (hereZ L τ1.1)) (by omega) (by omega)) rfl (by omega) (Nat.le_of_ble_eq_true rfl) ?_
                refine j_top (by rw [hereZ_nat]) ?_
                refine jb_if_eq (tgt := 203) hC dX10_item_187 (by decide) (fun c12 => ?_) (fun c12 => ?_)
                · have hlit1 : pLit L 120 (a + 1) = τ1.1 := hE1.trans (pLit_no (by assumption))
                  have hτ1e : (pLit L 120 (a + 1), true) = τ1 := by rw [hlit1, ← hok1]
                  refine j_aload_n hC dX10_item_203 rfl (jrf_ref _) ?_
                  refine r_get hC kf_X10_38 dX10_item_204 rfl ?_
                  refine j_iload_n hC dX10_item_207 rfl ?_
                  refine j_aload_n hC dX10_item_208 rfl (jrf_ref _) ?_
                  refine r_getN (x := nI (τ1.1)) hC kf_X10_147 dX10_item_209 rfl (rfl) ?_
                  refine r_ast (k := 19) (j := its.length) hC dX10_item_212 (c := 9) (n := 120) (by decide) (fun _ => rfl) (rO_k19) hB rfl (by omega) (by decide) ?_
                  refine j_R (R' := (sgR (ra X 19 (its.length) (nI (τ1.1))) τ1)) (rfl) ?_
                  refine j_aload_n hC dX10_item_213 rfl (jrf_ref _) ?_
                  refine j_bipush (v := nI 124) hC dX10_item_214 (by decide) ?_
                  refine r_cv1 hC kv_X10_171 dX10_item_216 (m_X10_wants (R := (ra X 19 (its.length) (nI (τ1.1)))) (σ := τ1) (c := 124) (ln_fr hXl (pFr_ra pFr_refl (by decide))) hτ1 (by omega) (by omega)) hB rfl (by omega) (Nat.le_of_ble_eq_true rfl) ?_
                  have hb13a := pF_b (σ := (pWant L (124) τ1))
                  have hb13b := hereZ_b hLc (i := (pWant L (124) τ1).1)
                  have hb13c : (pWant L (124) τ1).1 ≤ L.length := pWant_le (by omega) hτ1
                  suffices K : ∀ (n9b : Nat) (τ2 : pS) (f2 : Nat), f2 < n9b → (τ2.1 ≤ L.length) → (a + 1 ≤ τ2.1) → (L.length ≤ τ2.1 + f2) → (litE L 120 (pWant L 124 τ1) = litE L f2 τ2) → J C (rM o M0 (sgR (ra X 19 (its.length) (nI (τ1.1))) τ2)) 0 0 219 [some (.ref o), some (.int (nI (pC L a))), some (.int (nI (k))), some (.int (nI (its.length)))] [] from j_R (rfl) (K _ (pWant L 124 τ1) (120) (Nat.lt_succ_self _) (by assumption) (Nat.le_trans hmo1 pWant_mo) (by omega) (rfl))
                  intro n9b
                  induction n9b with
                  | zero => intro τ2 f2 hm; omega
                  | succ n9b ihb =>
                    intro τ2 f2 hmb hτ2 hmo2 hf2 hE2
                    have hz2 := hereZ_b hLc (i := τ2.1)
                    have hp2 := pF_b (σ := τ2)
                    refine j_aload_n hC dX10_item_219 rfl (jrf_ref _) ?_
                    refine r_getN (x := zI (pF τ2)) hC kf_X10_153 dX10_item_220 rfl (rfl) ?_
                    refine z_if_ge (a := (pF τ2)) (tgt := 249) hC dX10_item_223 (by decide) (by unfold zB; omega) (fun c14 => ?_) (fun c14 => ?_)
                    · have hE3 : litE L 120 (pWant L 124 τ1) = τ2 := hE2.trans (litE_no (by first | exact Or.inl (by assumption) | exact Or.inr (by assumption)))
                      have hEE : litE L 120 (pWant L 124 (pLit L 120 (a + 1), true)) = τ2 := by rw [hτ1e]; exact hE3
                      have hTT : pTwo L 4 a = τ2.1 := by rw [pTwo, if_neg (by decide), if_pos rfl, ← litE_1, hEE]
                      have hat4 : a < (pWant L 62 τ2).1 := Nat.lt_of_lt_of_le hmo2 pWant_mo
                      refine j_aload_n hC dX10_item_249 rfl (jrf_ref _) ?_
                      refine r_get hC kf_X10_41 dX10_item_250 rfl ?_
                      refine j_iload_n hC dX10_item_253 rfl ?_
                      refine j_aload_n hC dX10_item_254 rfl (jrf_ref _) ?_
                      refine r_getN (x := nI (τ2.1)) hC kf_X10_147 dX10_item_255 rfl (rfl) ?_
                      refine r_ast (k := 20) (j := its.length) hC dX10_item_258 (c := 10) (n := 120) (by decide) (fun _ => rfl) (rO_k20) hB rfl (by omega) (by decide) ?_
                      refine j_R (R' := (sgR (ra (ra X 19 (its.length) (nI (τ1.1))) 20 (its.length) (nI (τ2.1))) τ2)) (rfl) ?_
                      refine j_aload_n hC dX10_item_259 rfl (jrf_ref _) ?_
                      refine j_bipush (v := nI 62) hC dX10_item_260 (by decide) ?_
                      refine r_cv1 hC kv_X10_171 dX10_item_262 (m_X10_wants (R := (ra (ra X 19 (its.length) (nI (τ1.1))) 20 (its.length) (nI (τ2.1)))) (σ := τ2) (c := 62) (ln_fr hXl (pFr_ra (pFr_ra pFr_refl (by decide)) (by decide))) hτ2 (by omega) (by omega)) hB rfl (by omega) (Nat.le_of_ble_eq_true rfl) ?_
                      have hb15a := pF_b (σ := (pWant L (62) τ2))
                      have hb15b := hereZ_b hLc (i := (pWant L (62) τ2).1)
                      have hb15c : (pWant L (62) τ2).1 ≤ L.length := pWant_le (by omega) hτ2
                      refine j_aload_n hC dX10_item_265 rfl (jrf_ref _) ?_
                      refine r_get hC kf_X10_44 dX10_item_266 rfl ?_
                      refine j_iload_n hC dX10_item_269 rfl ?_
                      refine j_aload_n hC dX10_item_270 rfl (jrf_ref _) ?_
                      refine r_getN (x := nI (its.length + 1)) hC kf_X10_162 dX10_item_271 rfl (hX16) ?_
                      refine r_ast (k := 21) (j := its.length) hC dX10_item_274 (c := 11) (n := 120) (by decide) (fun _ => rfl) (rO_k21) hB rfl (by omega) (by decide) ?_
                      exact j_vret hC9 rfl dX10_item_275 ⟨(ra (sgR (ra (ra X 19 (its.length) (nI (τ1.1))) 20 (its.length) (nI (τ2.1))) (pWant L (62) τ2)) 21 (its.length) (nI (its.length + 1))), it_fin (τ := (pWant L (62) τ2)) (one := τ1.1) (two := τ2.1) (pFr_trans hXf (pFr_ra (pFr_sg (pFr_ra (pFr_ra (pFr_refl) (by decide)) (by decide))) (by decide))) (ln_fr hXl (pFr_ra (pFr_sg (pFr_ra (pFr_ra (pFr_refl) (by decide)) (by decide))) (by decide))) hal h91 hk (by rw [hk0, pEndσ, if_neg (by decide), if_pos rfl]; exact congrArg (pWant L 62) (hEE)) (by rw [hk0]; exact hlit1) (by rw [hk0]; exact hTT) (by assumption) hat4 hil hcl hol hdl hmem rfl rfl hX14 hX15 hX16 hX22 (fun i hi => ⟨(hXi i hi).1, (hXi i hi).2.1, (by first | exact (hXi i hi).2.2.1 | exact (pk_un (by omega)).trans (hXi i hi).2.2.1), (by first | exact (hXi i hi).2.2.2 | exact (pk_un (by omega)).trans (hXi i hi).2.2.2)⟩) ⟨hXn.1, hXn.2.1, (by first | exact pk_us | exact hXn.2.2.1), (by first | exact pk_us | exact hXn.2.2.2), pk_us⟩ hXc (fun i hi h => (pk_un (by omega)).trans (hXt i hi h)), rfl⟩
                    · refine j_aload_n hC dX10_item_226 rfl (jrf_ref _) ?_
                      refine r_ci0 hC kv_X10_156 dX10_item_227 (m_X10_here (R := (ra X 19 (its.length) (nI (τ1.1)))) (σ := τ2) (ln_fr hXl (pFr_ra pFr_refl (by decide))) hτ2) hB rfl (by omega) (Nat.le_of_ble_eq_true rfl) ?_
                      refine s_ci1 hC ks_X10_193 dX10_item_230 (m_X10_isLiteral (z := (hereZ L τ2.1)) (by omega) (by omega)) rfl (by omega) (Nat.le_of_ble_eq_true rfl) ?_
                      refine j_top (by rw [hereZ_nat]) ?_
                      refine jb_if_eq (tgt := 249) hC dX10_item_233 (by decide) (fun c16 => ?_) (fun c16 => ?_)
                      · have hE3 : litE L 120 (pWant L 124 τ1) = τ2 := hE2.trans (litE_no (by first | exact Or.inl (by assumption) | exact Or.inr (by assumption)))
                        have hEE : litE L 120 (pWant L 124 (pLit L 120 (a + 1), true)) = τ2 := by rw [hτ1e]; exact hE3
                        have hTT : pTwo L 4 a = τ2.1 := by rw [pTwo, if_neg (by decide), if_pos rfl, ← litE_1, hEE]
                        have hat4 : a < (pWant L 62 τ2).1 := Nat.lt_of_lt_of_le hmo2 pWant_mo
                        refine j_aload_n hC dX10_item_249 rfl (jrf_ref _) ?_
                        refine r_get hC kf_X10_41 dX10_item_250 rfl ?_
                        refine j_iload_n hC dX10_item_253 rfl ?_
                        refine j_aload_n hC dX10_item_254 rfl (jrf_ref _) ?_
                        refine r_getN (x := nI (τ2.1)) hC kf_X10_147 dX10_item_255 rfl (rfl) ?_
                        refine r_ast (k := 20) (j := its.length) hC dX10_item_258 (c := 10) (n := 120) (by decide) (fun _ => rfl) (rO_k20) hB rfl (by omega) (by decide) ?_
                        refine j_R (R' := (sgR (ra (ra X 19 (its.length) (nI (τ1.1))) 20 (its.length) (nI (τ2.1))) τ2)) (rfl) ?_
                        refine j_aload_n hC dX10_item_259 rfl (jrf_ref _) ?_
                        refine j_bipush (v := nI 62) hC dX10_item_260 (by decide) ?_
                        refine r_cv1 hC kv_X10_171 dX10_item_262 (m_X10_wants (R := (ra (ra X 19 (its.length) (nI (τ1.1))) 20 (its.length) (nI (τ2.1)))) (σ := τ2) (c := 62) (ln_fr hXl (pFr_ra (pFr_ra pFr_refl (by decide)) (by decide))) hτ2 (by omega) (by omega)) hB rfl (by omega) (Nat.le_of_ble_eq_true rfl) ?_
                        have hb17a := pF_b (σ := (pWant L (62) τ2))
                        have hb17b := hereZ_b hLc (i := (pWant L (62) τ2).1)
                        have hb17c : (pWant L (62) τ2).1 ≤ L.length := pWant_le (by omega) hτ2
                        refine j_aload_n hC dX10_item_265 rfl (jrf_ref _) ?_
                        refine r_get hC kf_X10_44 dX10_item_266 rfl ?_
                        refine j_iload_n hC dX10_item_269 rfl ?_
                        refine j_aload_n hC dX10_item_270 rfl (jrf_ref _) ?_
                        refine r_getN (x := nI (its.length + 1)) hC kf_X10_162 dX10_item_271 rfl (hX16) ?_
                        refine r_ast (k := 21) (j := its.length) hC dX10_item_274 (c := 11) (n := 120) (by decide) (fun _ => rfl) (rO_k21) hB rfl (by omega) (by decide) ?_
                        exact j_vret hC9 rfl dX10_item_275 ⟨(ra (sgR (ra (ra X 19 (its.length) (nI (τ1.1))) 20 (its.length) (nI (τ2.1))) (pWant L (62) τ2)) 21 (its.length) (nI (its.length + 1))), it_fin (τ := (pWant L (62) τ2)) (one := τ1.1) (two := τ2.1) (pFr_trans hXf (pFr_ra (pFr_sg (pFr_ra (pFr_ra (pFr_refl) (by decide)) (by decide))) (by decide))) (ln_fr hXl (pFr_ra (pFr_sg (pFr_ra (pFr_ra (pFr_refl) (by decide)) (by decide))) (by decide))) hal h91 hk (by rw [hk0, pEndσ, if_neg (by decide), if_pos rfl]; exact congrArg (pWant L 62) (hEE)) (by rw [hk0]; exact hlit1) (by rw [hk0]; exact hTT) (by assumption) hat4 hil hcl hol hdl hmem rfl rfl hX14 hX15 hX16 hX22 (fun i hi => ⟨(hXi i hi).1, (hXi i hi).2.1, (by first | exact (hXi i hi).2.2.1 | exact (pk_un (by omega)).trans (hXi i hi).2.2.1), (by first | exact (hXi i hi).2.2.2 | exact (pk_un (by omega)).trans (hXi i hi).2.2.2)⟩) ⟨hXn.1, hXn.2.1, (by first | exact pk_us | exact hXn.2.2.1), (by first | exact pk_us | exact hXn.2.2.2), pk_us⟩ hXc (fun i hi h => (pk_un (by omega)).trans (hXt i hi h)), rfl⟩
                      · have hl2 : (τ2.1 + 1, true).1 ≤ L.length := lit_lt (L := L) (i := τ2.1) (by assumption)
                        have hl3 : τ2.1 < L.length := hl2
                        refine j_aload_n hC dX10_item_236 rfl (jrf_ref _) ?_
                        refine j_dup hC dX10_item_237 rfl ?_
                        refine r_getN (x := nI (τ2.1)) hC kf_X10_147 dX10_item_238 rfl (rfl) ?_
                        refine j_iconst (v := nI 1) hC dX10_item_241 (by decide) ?_
                        refine n_iadd hC dX10_item_242 ?_
                        refine r_put hC kp_X10_147 dX10_item_243 hB rfl rfl rF_set_12 ?_
                        refine j_goto (tgt := 219) hC dX10_item_246 (by decide) ?_
                        exact j_R (sg_at (by omega) rfl) (ihb ((τ2.1 + 1, true)) (f2 - 1) (by omega) (by assumption) (by show a + 1 ≤ τ2.1 + 1; omega) (by show L.length ≤ τ2.1 + 1 + (f2 - 1); omega) (hE2.trans (litE_s (by omega) (by omega) (by assumption))))
                · have hl1 := lit_lt (L := L) (i := τ1.1) (by assumption)
                  refine j_aload_n hC dX10_item_190 rfl (jrf_ref _) ?_
                  refine j_dup hC dX10_item_191 rfl ?_
                  refine r_getN (x := nI (τ1.1)) hC kf_X10_147 dX10_item_192 rfl (rfl) ?_
                  refine j_iconst (v := nI 1) hC dX10_item_195 (by decide) ?_
                  refine n_iadd hC dX10_item_196 ?_
                  refine r_put hC kp_X10_147 dX10_item_197 hB rfl rfl rF_set_12 ?_
                  refine j_goto (tgt := 173) hC dX10_item_200 (by decide) ?_
                  exact j_R (sg_at (by omega) rfl) (iha ((τ1.1 + 1, true)) (f1 - 1) (by omega) (hl1) (rfl) (by show a + 1 ≤ τ1.1 + 1; omega) (by show L.length ≤ τ1.1 + 1 + (f1 - 1); omega) (hE1.trans (pLit_s (by omega) (by assumption))))
        · have hk0 : k = 3 := by assumption
          refine j_aload_n hC dX10_item_118 rfl (jrf_ref _) ?_
          refine r_get hC kf_X10_38 dX10_item_119 rfl ?_
          refine j_iload_n hC dX10_item_122 rfl ?_
          refine j_aload_n hC dX10_item_123 rfl (jrf_ref _) ?_
          refine j_iconst (v := nI 4) hC dX10_item_124 (by decide) ?_
          refine r_ci1 hC kv_X10_168 dX10_item_125 (m_X10_digit (R := X) (σ := (a + 1, true)) (n := 4) hXl hle9 (by omega)) hB rfl (by omega) (Nat.le_of_ble_eq_true rfl) ?_
          have hb18a := pF_b (σ := (pDig L (4) (a + 1, true)))
          have hb18b := hereZ_b hLc (i := (pDig L (4) (a + 1, true)).1)
          have hb18c : (pDig L (4) (a + 1, true)).1 ≤ L.length := pDig_le hle9
          have hb18d := pDv_le (L := L) (n := 4) (σ := (a + 1, true)) (by omega)
          refine r_ast (k := 19) (j := its.length) hC dX10_item_128 (c := 9) (n := 120) (by decide) (fun _ => rfl) (rO_k19) hB rfl (by omega) (by decide) ?_
          refine j_R (R' := (sgR (ra X 19 (its.length) (nI (pDv L (4) (a + 1, true)))) (pDig L (4) (a + 1, true)))) (rfl) ?_
          refine j_aload_n hC dX10_item_129 rfl (jrf_ref _) ?_
          refine r_get hC kf_X10_41 dX10_item_130 rfl ?_
          refine j_iload_n hC dX10_item_133 rfl ?_
          refine j_aload_n hC dX10_item_134 rfl (jrf_ref _) ?_
          refine j_bipush (v := nI 94) hC dX10_item_135 (by decide) ?_
          refine r_ci1 hC kv_X10_159 dX10_item_137 (m_X10_isNext (R := (ra X 19 (its.length) (nI (pDv L (4) (a + 1, true))))) (σ := (pDig L (4) (a + 1, true))) (c := 94) (ln_fr hXl (pFr_ra pFr_refl (by decide))) (by assumption) (by omega) (by omega)) hB rfl (by omega) (Nat.le_of_ble_eq_true rfl) ?_
          have hb19a := pF_b (σ := (pNext L (94) (pDig L (4) (a + 1, true))))
          have hb19b := hereZ_b hLc (i := (pNext L (94) (pDig L (4) (a + 1, true))).1)
          have hb19c : (pNext L (94) (pDig L (4) (a + 1, true))).1 ≤ L.length := pNext_le (by omega) (by assumption)
          refine jb_if_eq (tgt := 147) hC dX10_item_140 (by decide) (fun c20 => ?_) (fun c20 => ?_)
          · refine j_R (R' := (sgR (ra X 19 (its.length) (nI (pDv L (4) (a + 1, true)))) (pDig L (4) (a + 1, true)))) (by rw [pNext_no (by assumption)]) ?_
            refine j_aload_n hC dX10_item_147 rfl (jrf_ref _) ?_
            refine j_bipush (v := nI 42) hC dX10_item_148 (by decide) ?_
            refine r_ci1 hC kv_X10_159 dX10_item_150 (m_X10_isNext (R := (ra X 19 (its.length) (nI (pDv L (4) (a + 1, true))))) (σ := (pDig L (4) (a + 1, true))) (c := 42) (ln_fr hXl (pFr_ra pFr_refl (by decide))) (by assumption) (by omega) (by omega)) hB rfl (by omega) (Nat.le_of_ble_eq_true rfl) ?_
            have hb21a := pF_b (σ := (pNext L (42) (pDig L (4) (a + 1, true))))
            have hb21b := hereZ_b hLc (i := (pNext L (42) (pDig L (4) (a + 1, true))).1)
            have hb21c : (pNext L (42) (pDig L (4) (a + 1, true))).1 ≤ L.length := pNext_le (by omega) (by assumption)
            refine jb_if_eq (tgt := 160) hC dX10_item_153 (by decide) (fun c22 => ?_) (fun c22 => ?_)
            · refine j_iconst (v := nI 0) hC dX10_item_160 (by decide) ?_
              refine r_ast (k := 20) (j := its.length) hC dX10_item_161 (c := 10) (n := 120) (by decide) (fun _ => rfl) (rO_k20) hB rfl (by omega) (by decide) ?_
              refine j_R (R' := (sgR (ra (ra X 19 (its.length) (nI (pDv L (4) (a + 1, true)))) 20 (its.length) (nI (0))) (pNext L (42) (pDig L (4) (a + 1, true))))) rfl ?_
              refine j_aload_n hC dX10_item_162 rfl (jrf_ref _) ?_
              refine j_bipush (v := nI 125) hC dX10_item_163 (by decide) ?_
              refine r_cv1 hC kv_X10_171 dX10_item_165 (m_X10_wants (R := (ra (ra X 19 (its.length) (nI (pDv L (4) (a + 1, true)))) 20 (its.length) (nI (0)))) (σ := (pNext L (42) (pDig L (4) (a + 1, true)))) (c := 125) (ln_fr hXl (pFr_ra (pFr_ra pFr_refl (by decide)) (by decide))) (by assumption) (by omega) (by omega)) hB rfl (by omega) (Nat.le_of_ble_eq_true rfl) ?_
              have hb23a := pF_b (σ := (pWant L (125) (pNext L (42) (pDig L (4) (a + 1, true)))))
              have hb23b := hereZ_b hLc (i := (pWant L (125) (pNext L (42) (pDig L (4) (a + 1, true)))).1)
              have hb23c : (pWant L (125) (pNext L (42) (pDig L (4) (a + 1, true)))).1 ≤ L.length := pWant_le (by omega) (by assumption)
              refine j_iload_n hC dX10_item_168 rfl ?_
              refine j_iconst (v := nI 4) hC dX10_item_169 (by decide) ?_
              refine n_icmp_ne (tgt := 265) hC dX10_item_170 (by decide) (by omega) (by omega) (fun c24 => ?_) (fun c24 => ?_)
              · refine j_aload_n hC dX10_item_265 rfl (jrf_ref _) ?_
                refine r_get hC kf_X10_44 dX10_item_266 rfl ?_
                refine j_iload_n hC dX10_item_269 rfl ?_
                refine j_aload_n hC dX10_item_270 rfl (jrf_ref _) ?_
                refine r_getN (x := nI (its.length + 1)) hC kf_X10_162 dX10_item_271 rfl (hX16) ?_
                refine r_ast (k := 21) (j := its.length) hC dX10_item_274 (c := 11) (n := 120) (by decide) (fun _ => rfl) (rO_k21) hB rfl (by omega) (by decide) ?_
                exact j_vret hC9 rfl dX10_item_275 ⟨(ra (sgR (ra (ra X 19 (its.length) (nI (pDv L (4) (a + 1, true)))) 20 (its.length) (nI (0))) (pWant L (125) (pNext L (42) (pDig L (4) (a + 1, true))))) 21 (its.length) (nI (its.length + 1))), it_fin (τ := (pWant L (125) (pNext L (42) (pDig L (4) (a + 1, true))))) (one := pDv L 4 (a + 1, true)) (two := 0) (pFr_trans hXf (pFr_ra (pFr_sg (pFr_ra (pFr_ra (pFr_refl) (by decide)) (by decide))) (by decide))) (ln_fr hXl (pFr_ra (pFr_sg (pFr_ra (pFr_ra (pFr_refl) (by decide)) (by decide))) (by decide))) hal h91 hk (by rw [hk0, pEndσ, if_pos rfl, if_neg (by assumption)]) (by rw [hk0]; rfl) (by rw [hk0, pTwo, if_pos rfl, if_neg (by assumption), if_neg (by assumption)]) (by assumption) (Nat.lt_of_lt_of_le hat9 (Nat.le_trans (pDig_mo (L := L) (n := 4)) (Nat.le_trans (pNext_mo (L := L) (c := 42)) (pWant_mo (L := L) (c := 125))))) hil hcl hol hdl hmem rfl rfl hX14 hX15 hX16 hX22 (fun i hi => ⟨(hXi i hi).1, (hXi i hi).2.1, (by first | exact (hXi i hi).2.2.1 | exact (pk_un (by omega)).trans (hXi i hi).2.2.1), (by first | exact (hXi i hi).2.2.2 | exact (pk_un (by omega)).trans (hXi i hi).2.2.2)⟩) ⟨hXn.1, hXn.2.1, (by first | exact pk_us | exact hXn.2.2.1), (by first | exact pk_us | exact hXn.2.2.2), pk_us⟩ hXc (fun i hi h => (pk_un (by omega)).trans (hXt i hi h)), rfl⟩
              · exact (show False by omega).elim
            · refine j_iconst (v := nI 2) hC dX10_item_156 (by decide) ?_
              refine j_goto (tgt := 161) hC dX10_item_157 (by decide) ?_
              refine r_ast (k := 20) (j := its.length) hC dX10_item_161 (c := 10) (n := 120) (by decide) (fun _ => rfl) (rO_k20) hB rfl (by omega) (by decide) ?_
              refine j_R (R' := (sgR (ra (ra X 19 (its.length) (nI (pDv L (4) (a + 1, true)))) 20 (its.length) (nI (2))) (pNext L (42) (pDig L (4) (a + 1, true))))) rfl ?_
              refine j_aload_n hC dX10_item_162 rfl (jrf_ref _) ?_
              refine j_bipush (v := nI 125) hC dX10_item_163 (by decide) ?_
              refine r_cv1 hC kv_X10_171 dX10_item_165 (m_X10_wants (R := (ra (ra X 19 (its.length) (nI (pDv L (4) (a + 1, true)))) 20 (its.length) (nI (2)))) (σ := (pNext L (42) (pDig L (4) (a + 1, true)))) (c := 125) (ln_fr hXl (pFr_ra (pFr_ra pFr_refl (by decide)) (by decide))) (by assumption) (by omega) (by omega)) hB rfl (by omega) (Nat.le_of_ble_eq_true rfl) ?_
              have hb25a := pF_b (σ := (pWant L (125) (pNext L (42) (pDig L (4) (a + 1, true)))))
              have hb25b := hereZ_b hLc (i := (pWant L (125) (pNext L (42) (pDig L (4) (a + 1, true)))).1)
              have hb25c : (pWant L (125) (pNext L (42) (pDig L (4) (a + 1, true)))).1 ≤ L.length := pWant_le (by omega) (by assumption)
              refine j_iload_n hC dX10_item_168 rfl ?_
              refine j_iconst (v := nI 4) hC dX10_item_169 (by decide) ?_
              refine n_icmp_ne (tgt := 265) hC dX10_item_170 (by decide) (by omega) (by omega) (fun c26 => ?_) (fun c26 => ?_)
              · refine j_aload_n hC dX10_item_265 rfl (jrf_ref _) ?_
                refine r_get hC kf_X10_44 dX10_item_266 rfl ?_
                refine j_iload_n hC dX10_item_269 rfl ?_
                refine j_aload_n hC dX10_item_270 rfl (jrf_ref _) ?_
                refine r_getN (x := nI (its.length + 1)) hC kf_X10_162 dX10_item_271 rfl (hX16) ?_
                refine r_ast (k := 21) (j := its.length) hC dX10_item_274 (c := 11) (n := 120) (by decide) (fun _ => rfl) (rO_k21) hB rfl (by omega) (by decide) ?_
                exact j_vret hC9 rfl dX10_item_275 ⟨(ra (sgR (ra (ra X 19 (its.length) (nI (pDv L (4) (a + 1, true)))) 20 (its.length) (nI (2))) (pWant L (125) (pNext L (42) (pDig L (4) (a + 1, true))))) 21 (its.length) (nI (its.length + 1))), it_fin (τ := (pWant L (125) (pNext L (42) (pDig L (4) (a + 1, true))))) (one := pDv L 4 (a + 1, true)) (two := 2) (pFr_trans hXf (pFr_ra (pFr_sg (pFr_ra (pFr_ra (pFr_refl) (by decide)) (by decide))) (by decide))) (ln_fr hXl (pFr_ra (pFr_sg (pFr_ra (pFr_ra (pFr_refl) (by decide)) (by decide))) (by decide))) hal h91 hk (by rw [hk0, pEndσ, if_pos rfl, if_neg (by assumption)]) (by rw [hk0]; rfl) (by rw [hk0, pTwo, if_pos rfl, if_neg (by assumption), if_pos (by assumption)]) (by assumption) (Nat.lt_of_lt_of_le hat9 (Nat.le_trans (pDig_mo (L := L) (n := 4)) (Nat.le_trans (pNext_mo (L := L) (c := 42)) (pWant_mo (L := L) (c := 125))))) hil hcl hol hdl hmem rfl rfl hX14 hX15 hX16 hX22 (fun i hi => ⟨(hXi i hi).1, (hXi i hi).2.1, (by first | exact (hXi i hi).2.2.1 | exact (pk_un (by omega)).trans (hXi i hi).2.2.1), (by first | exact (hXi i hi).2.2.2 | exact (pk_un (by omega)).trans (hXi i hi).2.2.2)⟩) ⟨hXn.1, hXn.2.1, (by first | exact pk_us | exact hXn.2.2.1), (by first | exact pk_us | exact hXn.2.2.2), pk_us⟩ hXc (fun i hi h => (pk_un (by omega)).trans (hXt i hi h)), rfl⟩
              · exact (show False by omega).elim
          · refine j_iconst (v := nI 1) hC dX10_item_143 (by decide) ?_
            refine j_goto (tgt := 161) hC dX10_item_144 (by decide) ?_
            refine r_ast (k := 20) (j := its.length) hC dX10_item_161 (c := 10) (n := 120) (by decide) (fun _ => rfl) (rO_k20) hB rfl (by omega) (by decide) ?_
            refine j_R (R' := (sgR (ra (ra X 19 (its.length) (nI (pDv L (4) (a + 1, true)))) 20 (its.length) (nI (1))) (pNext L (94) (pDig L (4) (a + 1, true))))) rfl ?_
            refine j_aload_n hC dX10_item_162 rfl (jrf_ref _) ?_
            refine j_bipush (v := nI 125) hC dX10_item_163 (by decide) ?_
            refine r_cv1 hC kv_X10_171 dX10_item_165 (m_X10_wants (R := (ra (ra X 19 (its.length) (nI (pDv L (4) (a + 1, true)))) 20 (its.length) (nI (1)))) (σ := (pNext L (94) (pDig L (4) (a + 1, true)))) (c := 125) (ln_fr hXl (pFr_ra (pFr_ra pFr_refl (by decide)) (by decide))) (by assumption) (by omega) (by omega)) hB rfl (by omega) (Nat.le_of_ble_eq_true rfl) ?_
            have hb27a := pF_b (σ := (pWant L (125) (pNext L (94) (pDig L (4) (a + 1, true)))))
            have hb27b := hereZ_b hLc (i := (pWant L (125) (pNext L (94) (pDig L (4) (a + 1, true)))).1)
            have hb27c : (pWant L (125) (pNext L (94) (pDig L (4) (a + 1, true)))).1 ≤ L.length := pWant_le (by omega) (by assumption)
            refine j_iload_n hC dX10_item_168 rfl ?_
            refine j_iconst (v := nI 4) hC dX10_item_169 (by decide) ?_
            refine n_icmp_ne (tgt := 265) hC dX10_item_170 (by decide) (by omega) (by omega) (fun c28 => ?_) (fun c28 => ?_)
            · refine j_aload_n hC dX10_item_265 rfl (jrf_ref _) ?_
              refine r_get hC kf_X10_44 dX10_item_266 rfl ?_
              refine j_iload_n hC dX10_item_269 rfl ?_
              refine j_aload_n hC dX10_item_270 rfl (jrf_ref _) ?_
              refine r_getN (x := nI (its.length + 1)) hC kf_X10_162 dX10_item_271 rfl (hX16) ?_
              refine r_ast (k := 21) (j := its.length) hC dX10_item_274 (c := 11) (n := 120) (by decide) (fun _ => rfl) (rO_k21) hB rfl (by omega) (by decide) ?_
              exact j_vret hC9 rfl dX10_item_275 ⟨(ra (sgR (ra (ra X 19 (its.length) (nI (pDv L (4) (a + 1, true)))) 20 (its.length) (nI (1))) (pWant L (125) (pNext L (94) (pDig L (4) (a + 1, true))))) 21 (its.length) (nI (its.length + 1))), it_fin (τ := (pWant L (125) (pNext L (94) (pDig L (4) (a + 1, true))))) (one := pDv L 4 (a + 1, true)) (two := 1) (pFr_trans hXf (pFr_ra (pFr_sg (pFr_ra (pFr_ra (pFr_refl) (by decide)) (by decide))) (by decide))) (ln_fr hXl (pFr_ra (pFr_sg (pFr_ra (pFr_ra (pFr_refl) (by decide)) (by decide))) (by decide))) hal h91 hk (by rw [hk0, pEndσ, if_pos rfl, if_pos (by assumption)]) (by rw [hk0]; rfl) (by rw [hk0, pTwo, if_pos rfl, if_pos (by assumption)]) (by assumption) (Nat.lt_of_lt_of_le hat9 (Nat.le_trans (pDig_mo (L := L) (n := 4)) (Nat.le_trans (pNext_mo (L := L) (c := 94)) (pWant_mo (L := L) (c := 125))))) hil hcl hol hdl hmem rfl rfl hX14 hX15 hX16 hX22 (fun i hi => ⟨(hXi i hi).1, (hXi i hi).2.1, (by first | exact (hXi i hi).2.2.1 | exact (pk_un (by omega)).trans (hXi i hi).2.2.1), (by first | exact (hXi i hi).2.2.2 | exact (pk_un (by omega)).trans (hXi i hi).2.2.2)⟩) ⟨hXn.1, hXn.2.1, (by first | exact pk_us | exact hXn.2.2.1), (by first | exact pk_us | exact hXn.2.2.2), pk_us⟩ hXc (fun i hi h => (pk_un (by omega)).trans (hXt i hi h)), rfl⟩
            · exact (show False by omega).elim
      · have hk0 : k = 0 := by assumption
        refine j_aload_n hC dX10_item_106 rfl (jrf_ref _) ?_
        refine r_get hC kf_X10_38 dX10_item_107 rfl ?_
        refine j_iload_n hC dX10_item_110 rfl ?_
        refine j_iload_n hC dX10_item_111 rfl ?_
        refine r_ast (k := 19) (j := its.length) hC dX10_item_112 (c := 9) (n := 120) (by decide) (fun _ => rfl) (rO_k19) hB rfl (by omega) (by decide) ?_
        refine j_R (R' := (sgR (ra X 19 (its.length) (nI (pC L a))) (a + 1, true))) (rfl) ?_
        refine j_iload_n hC dX10_item_113 rfl ?_
        refine j_iconst (v := nI 3) hC dX10_item_114 (by decide) ?_
        refine n_icmp_ne (tgt := 168) hC dX10_item_115 (by decide) (by omega) (by omega) (fun c29 => ?_) (fun c29 => ?_)
        · refine j_iload_n hC dX10_item_168 rfl ?_
          refine j_iconst (v := nI 4) hC dX10_item_169 (by decide) ?_
          refine n_icmp_ne (tgt := 265) hC dX10_item_170 (by decide) (by omega) (by omega) (fun c30 => ?_) (fun c30 => ?_)
          · refine j_aload_n hC dX10_item_265 rfl (jrf_ref _) ?_
            refine r_get hC kf_X10_44 dX10_item_266 rfl ?_
            refine j_iload_n hC dX10_item_269 rfl ?_
            refine j_aload_n hC dX10_item_270 rfl (jrf_ref _) ?_
            refine r_getN (x := nI (its.length + 1)) hC kf_X10_162 dX10_item_271 rfl (hX16) ?_
            refine r_ast (k := 21) (j := its.length) hC dX10_item_274 (c := 11) (n := 120) (by decide) (fun _ => rfl) (rO_k21) hB rfl (by omega) (by decide) ?_
            exact j_vret hC9 rfl dX10_item_275 ⟨(ra (sgR (ra X 19 (its.length) (nI (pC L a))) (a + 1, true)) 21 (its.length) (nI (its.length + 1))), it_fin (τ := (a + 1, true)) (one := pC L a) (two := 0) (pFr_trans hXf (pFr_ra (pFr_sg (pFr_ra (pFr_refl) (by decide))) (by decide))) (ln_fr hXl (pFr_ra (pFr_sg (pFr_ra (pFr_refl) (by decide))) (by decide))) hal h91 hk (by rw [hk0]; rfl) (by rw [hk0]; rfl) (by rw [hk0]; rfl) hle9 hat9 hil hcl hol hdl hmem rfl rfl hX14 hX15 hX16 hX22 (fun i hi => ⟨(hXi i hi).1, (hXi i hi).2.1, (by first | exact (hXi i hi).2.2.1 | exact (pk_un (by omega)).trans (hXi i hi).2.2.1), (by first | exact (hXi i hi).2.2.2 | exact (pk_un (by omega)).trans (hXi i hi).2.2.2)⟩) ⟨hXn.1, hXn.2.1, (by first | exact pk_us | exact hXn.2.2.1), (by first | exact pk_us | exact hXn.2.2.2), pk_us⟩ hXc (fun i hi h => (pk_un (by omega)).trans (hXt i hi h)), rfl⟩
          · exact (show False by omega).elim
        · exact (show False by omega).elim
    · refine j_aload_n hC dX10_item_73 rfl (jrf_ref _) ?_
      refine j_aload_n hC dX10_item_74 rfl (jrf_ref _) ?_
      refine r_getN (x := nI ((a, true).1)) hC kf_X10_147 dX10_item_75 rfl (rfl) ?_
      refine r_put hC kp_X10_153 dX10_item_78 hB rfl rfl rF_set_13 ?_
      exact j_vret hC9 rfl dX10_item_81 ⟨(rs (sgR R (a, true)) 13 (nI ((a, true).1))), it_bad (n := 1) (i := a) hr (pFr_rs (pFr_sg pFr_refl) (by decide)) rfl rfl (by omega) (it_none hal (by assumption) h93 (kdZ_none (by assumption))), rfl⟩
  · refine j_R (R' := R) (hsR.symm) ?_
    refine j_aload_n hC dX10_item_11 rfl (jrf_ref _) ?_
    refine r_call hC kv_X10_190 dX10_item_12 (hBk (by assumption)) rfl rfl hB rfl (by omega) (Nat.le_of_ble_eq_true rfl) ?_
    intro v9 R9 h9
    obtain ⟨rfl, hP9⟩ := h9
    exact j_vret hC9 rfl dX10_item_15 ⟨R9, ⟨rfl, hP9⟩, rfl⟩
