theorem rp_homeOK {R : rR} {S : aSet} (hp : rPre R S) : (sHome S).length ≤ 12 ∧ ∀ c ∈ sHome S, 32 ≤ c ∧ c ≤ 126 := hp.2.2.2.2.2.2.1
theorem rp_tmplOK {R : rR} {S : aSet} (hp : rPre R S) : (sTmpl S).length ≤ 120 ∧ ∀ c ∈ sTmpl S, 32 ≤ c ∧ c ≤ 126 := hp.2.2.2.2.2.2.2.1
theorem home_end {t u : List Nat} {k : Nat} {b : Bool} (hb : b = true ↔ (t.length = u.length ∧ 0 < u.length) ∧ ∀ j, j < k → sm (t.getD j 0) = sm (u.getD j 0)) (hk : k ≤ u.length) (h : u.length ≤ k ∨ ¬ b = true) (ht : ∀ c ∈ t, c ≤ 126) (hu : ∀ c ∈ u, c ≤ 126) : b = true ↔ (decide (0 < u.length) && sameT t u) = true := by
  rw [Bool.and_eq_true, decide_eq_true_eq]
  by_cases h0 : t.length = u.length ∧ 0 < u.length
  · rw [show (0 < u.length ∧ sameT t u = true) ↔ sameT t u = true from ⟨fun h => h.2, fun h => ⟨h0.2, h⟩⟩]
    refine same_end (k := k) (hb.trans ⟨fun h => ⟨h.1.1, h.2⟩, fun h => ⟨h0, h.2⟩⟩) (by omega) (h.elim (fun h => Or.inl (by omega)) Or.inr) ht hu
  · constructor
    · intro e
      exact absurd (hb.mp e).1 h0
    · intro e
      exact absurd ⟨(same_iff.mp e.2).1, e.1⟩ h0
theorem line_iff {S : aSet} {q : aRec} {f : Nat} : isLineA S q f = true ↔ 0 < (q.2.2 f).length ∧ ¬ (f = 4 ∧ isHomeA S q = true) := by
  rw [isLineA, Bool.and_eq_true, decide_eq_true_eq, Bool.not_eq_true', Bool.and_eq_false_iff, decide_eq_false_iff_not]
  refine and_congr Iff.rfl ⟨fun h e => h.elim (fun h => h e.1) (fun h => by rw [e.2] at h; exact absurd h (by decide)), fun h => ?_⟩
  by_cases h4 : f = 4
  · refine Or.inr ?_
    cases hh : isHomeA S q with
    | false => rfl
    | true => exact absurd ⟨h4, hh⟩ h
  · exact Or.inl h4
theorem cntTo_le {p : Nat → Bool} : ∀ n, cntTo p n ≤ n
  | 0 => Nat.le_refl _
  | n + 1 => by
    have := cntTo_le (p := p) n
    simp only [cntTo]
    split <;> omega
theorem tb_0 {n g : Nat} (h : n / 2 ^ g % 2 = 0) : n.testBit g = false := by
  rw [Nat.testBit_eq_decide_div_mod_eq, decide_eq_false_iff_not]; omega
theorem tb_1 {n g : Nat} (h : ¬ n / 2 ^ g % 2 = 0) : n.testBit g = true := by
  rw [Nat.testBit_eq_decide_div_mod_eq, decide_eq_true_eq]; omega
theorem like_t {S : aSet} {r q f : Nat} (h : likeA S r q f = true) (h2 : sKeys S / 2 ^ f % 2 = 0 ∨ sameT ((sAt S r).2.2 f) ((sAt S q).2.2 f) = true) : likeA S r q (f + 1) = true := by
  rw [likeA, h, Bool.true_and, Bool.or_eq_true]
  exact h2.elim (fun e => Or.inl (by rw [tb_0 e]; rfl)) Or.inr
theorem like_f {S : aSet} {r q f : Nat} (h : ¬ likeA S r q f = true ∨ (¬ sKeys S / 2 ^ f % 2 = 0 ∧ ¬ sameT ((sAt S r).2.2 f) ((sAt S q).2.2 f) = true)) : ¬ likeA S r q (f + 1) = true := by
  rw [likeA, Bool.and_eq_true, Bool.or_eq_true]
  intro h9
  obtain ⟨h1, h2⟩ := h9
  rcases h with h | ⟨h3, h4⟩
  · exact h h1
  · rcases h2 with h2 | h2
    · rw [tb_1 h3] at h2; exact absurd h2 (by decide)
    · exact h4 h2
set_option maxHeartbeats 4000000 in
set_option maxRecDepth 100000 in
theorem m_X10_isHome {R : rR} {S : aSet} {r : Nat} (hp : rPre R S) (hr : r < (sRecs S).length) : RI jX10_isHome 2 [.int (nI r)] R (jb (isHomeA S (sAt S r) = true)) R := by
  intro G o M0 hs hBo
  refine jMet_of [some (.ref o), some (.int (nI r)), none, none] (by decide) rfl (Nat.le_of_ble_eq_true rfl) rfl hs ?_
  intro C hC9 hG
  have hC := hC9.z
  have hB : jB C ≤ o := by rw [jB, hG]; exact hBo
  have hlr := rp_l12 hp hr (show 4 < 5 by decide)
  have hlh := (rp_homeOK hp).1
  have hcr : ∀ j, j < ((sAt S r).2.2 4).length → ((sAt S r).2.2 4).getD j 0 ≤ 126 := fun j hj => (getD_lt126 ((rp_recOK hp hr).2.2 4 (by decide)).2 hj).2
  have hch : ∀ j, j < (sHome S).length → (sHome S).getD j 0 ≤ 126 := fun j hj => (getD_lt126 (rp_homeOK hp).2 hj).2
  refine j_aload_n hC dX10_isHome_0 rfl (jrf_ref _) ?_
  refine j_iload_n hC dX10_isHome_1 rfl ?_
  refine j_iconst (v := nI 4) hC dX10_isHome_2 (by decide) ?_
  refine r_ci2 hC kv_X10_109 dX10_isHome_3 (m_X10_longOf hp (by assumption) (by omega)) hB rfl (by decide) (Nat.le_of_ble_eq_true rfl) ?_
  refine j_aload_n hC dX10_isHome_6 rfl (jrf_ref _) ?_
  refine r_get hC kf_X10_9 dX10_isHome_7 rfl ?_
  refine j_iconst (v := nI 5) hC dX10_isHome_10 (by decide) ?_
  refine r_aldN (k := 1) (j := 5) (x := nI ((sHome S).length)) hC dX10_isHome_11 (c := 1) (n := 14790) (by decide) rfl rfl (by omega) (by decide) (rp_home hp) ?_
  suffices K : J C (rM o M0 (R)) 0 0 29 [some (.ref o), some (.int (nI (r))), none, none] [.int (jb (decide (((sAt S (r)).2.2 (4)).length = (sHome S).length ∧ 0 < (sHome S).length) = true))] by
    refine n_icmp_ne (tgt := 28) hC dX10_isHome_12 (by decide) (by omega) (by omega) (fun c1 => ?_) (fun c1 => ?_)
    · refine j_iconst (v := nI 0) hC dX10_isHome_28 (by decide) ?_
      exact j_top (jb_f0 (fun h => absurd (of_decide_eq_true h) (by omega))) K
    · refine j_aload_n hC dX10_isHome_15 rfl (jrf_ref _) ?_
      refine r_get hC kf_X10_9 dX10_isHome_16 rfl ?_
      refine j_iconst (v := nI 5) hC dX10_isHome_19 (by decide) ?_
      refine r_aldN (k := 1) (j := 5) (x := nI ((sHome S).length)) hC dX10_isHome_20 (c := 1) (n := 14790) (by decide) rfl rfl (by omega) (by decide) (rp_home hp) ?_
      refine n_if_le (tgt := 28) hC dX10_isHome_21 (by decide) (by omega) (fun c2 => ?_) (fun c2 => ?_)
      · refine j_iconst (v := nI 0) hC dX10_isHome_28 (by decide) ?_
        exact j_top (jb_f0 (fun h => absurd (of_decide_eq_true h) (by omega))) K
      · refine j_iconst (v := nI 1) hC dX10_isHome_24 (by decide) ?_
        refine j_goto (tgt := 29) hC dX10_isHome_25 (by decide) ?_
        exact j_top (jb_t1 (decide_eq_true (by omega))) K
  refine j_istore_n2 hC dX10_isHome_29 (by decide) rfl ?_
  refine j_iconst (v := nI 0) hC dX10_isHome_30 (by decide) ?_
  refine j_istore_n3 hC dX10_isHome_31 (by decide) rfl ?_
  suffices K : ∀ (n9 : Nat) (k : Nat) (b : Bool), (sHome S).length - k < n9 → (b = true ↔ ((((sAt S (r)).2.2 (4)).length = (sHome S).length ∧ 0 < (sHome S).length) ∧ ∀ j, j < k → sm (((sAt S (r)).2.2 (4)).getD j 0) = sm ((sHome S).getD j 0))) → (k ≤ (sHome S).length) → J C (rM o M0 (R)) 0 0 32 [some (.ref o), some (.int (nI (r))), some (.int (jb (b = true))), some (.int (nI (k)))] [] from j_R (rfl) (K _ (0) (decide (((sAt S (r)).2.2 (4)).length = (sHome S).length ∧ 0 < (sHome S).length)) (Nat.lt_succ_self _) (all_init) (Nat.zero_le _))
  intro n9
  induction n9 with
  | zero => intro k b hm; omega
  | succ n9 ih =>
    intro k b hm hb hk
    refine j_iload_n hC dX10_isHome_32 rfl ?_
    refine j_aload_n hC dX10_isHome_33 rfl (jrf_ref _) ?_
    refine r_get hC kf_X10_9 dX10_isHome_34 rfl ?_
    refine j_iconst (v := nI 5) hC dX10_isHome_37 (by decide) ?_
    refine r_aldN (k := 1) (j := 5) (x := nI ((sHome S).length)) hC dX10_isHome_38 (c := 1) (n := 14790) (by decide) rfl rfl (by omega) (by decide) (rp_home hp) ?_
    refine n_icmp_ge (tgt := 83) hC dX10_isHome_39 (by decide) (by omega) (by omega) (fun c3 => ?_) (fun c3 => ?_)
    · refine j_iload_n hC dX10_isHome_83 rfl ?_
      exact j_iret hC9 rfl jb_nar dX10_isHome_84 ⟨_, ⟨(jv (jb_congr (home_end hb hk (by first | exact Or.inl (by assumption) | exact Or.inr (by assumption)) (fld_le hp hr (by decide)) (fun c hc => ((rp_homeOK hp).2 c hc).2)))), rfl⟩, rfl⟩
    · refine j_iload_n hC dX10_isHome_42 rfl ?_
      refine jb_if_eq (tgt := 83) hC dX10_isHome_43 (by decide) (fun c4 => ?_) (fun c4 => ?_)
      · refine j_iload_n hC dX10_isHome_83 rfl ?_
        exact j_iret hC9 rfl jb_nar dX10_isHome_84 ⟨_, ⟨(jv (jb_congr (home_end hb hk (by first | exact Or.inl (by assumption) | exact Or.inr (by assumption)) (fld_le hp hr (by decide)) (fun c hc => ((rp_homeOK hp).2 c hc).2)))), rfl⟩, rfl⟩
      · have hb0 := hb.mp (by assumption)
        have hkq : k < ((sAt S (r)).2.2 (4)).length := by have := hb0.1.1; omega
        have h1r := hcr k (by omega)
        have h1q := hch k (by omega)
        have h2r := sm_le h1r
        have h2q := sm_le h1q
        refine j_aload_n hC dX10_isHome_46 rfl (jrf_ref _) ?_
        refine j_iload_n hC dX10_isHome_47 rfl ?_
        refine j_iconst (v := nI 4) hC dX10_isHome_48 (by decide) ?_
        refine j_iload_n hC dX10_isHome_49 rfl ?_
        refine r_ci3 hC kv_X10_113 dX10_isHome_50 (m_X10_charOf hp (by assumption) (by omega) (by omega)) hB rfl (by decide) (Nat.le_of_ble_eq_true rfl) ?_
        refine s_ci1 hC ks_X10_131 dX10_isHome_53 (m_X10_small (c := ((sAt S (r)).2.2 (4)).getD (k) 0) (by omega)) rfl (by decide) (Nat.le_of_ble_eq_true rfl) ?_
        refine j_aload_n hC dX10_isHome_56 rfl (jrf_ref _) ?_
        refine r_get hC kf_X10_9 dX10_isHome_57 rfl ?_
        refine j_bipush (v := nI 6) hC dX10_isHome_60 (by decide) ?_
        refine j_iload_n hC dX10_isHome_62 rfl ?_
        refine n_iadd hC dX10_isHome_63 ?_
        refine r_aldN (k := 1) (j := 6 + k) (x := nI ((sHome S).getD k 0)) hC dX10_isHome_64 (c := 1) (n := 14790) (by decide) rfl rfl (by omega) (by decide) (rp_homeC hp (by omega)) ?_
        refine s_ci1 hC ks_X10_131 dX10_isHome_65 (m_X10_small (c := (sHome S).getD k 0) (by omega)) rfl (by decide) (Nat.le_of_ble_eq_true rfl) ?_
        suffices K : J C (rM o M0 (R)) 0 0 76 [some (.ref o), some (.int (nI (r))), some (.int (jb (b = true))), some (.int (nI (k)))] [.int (jb (decide (sm (((sAt S (r)).2.2 (4)).getD (k) 0) = sm ((sHome S).getD k 0)) = true))] by
          refine n_icmp_ne (tgt := 75) hC dX10_isHome_68 (by decide) (by omega) (by omega) (fun c5 => ?_) (fun c5 => ?_)
          · refine j_iconst (v := nI 0) hC dX10_isHome_75 (by decide) ?_
            exact j_top (jb_f0 (fun h => absurd (of_decide_eq_true h) (by omega))) K
          · refine j_iconst (v := nI 1) hC dX10_isHome_71 (by decide) ?_
            refine j_goto (tgt := 76) hC dX10_isHome_72 (by decide) ?_
            exact j_top (jb_t1 (decide_eq_true (by omega))) K
        refine j_istore_n2 hC dX10_isHome_76 (by decide) rfl ?_
        refine j_iinc_3 (v := nI (k + 1)) hC dX10_isHome_77 (nI_add _ _) (by decide) rfl ?_
        refine j_goto (tgt := 32) hC dX10_isHome_80 (by decide) ?_
        exact j_R (rfl) (ih (k + 1) (decide (sm (((sAt S (r)).2.2 (4)).getD (k) 0) = sm ((sHome S).getD k 0))) (by omega) (all_step hb0) (by omega))
set_option maxHeartbeats 4000000 in
set_option maxRecDepth 100000 in
theorem m_X10_isLine {R : rR} {S : aSet} {r f : Nat} (hp : rPre R S) (hr : r < (sRecs S).length) (hf : f < 5) : RI jX10_isLine 3 [.int (nI r), .int (nI f)] R (jb (isLineA S (sAt S r) f = true)) R := by
  intro G o M0 hs hBo
  refine jMet_of [some (.ref o), some (.int (nI r)), some (.int (nI f))] (by decide) rfl (Nat.le_of_ble_eq_true rfl) rfl hs ?_
  intro C hC9 hG
  have hC := hC9.z
  have hB : jB C ≤ o := by rw [jB, hG]; exact hBo
  have hlr := rp_l12 hp hr hf
  refine j_aload_n hC dX10_isLine_0 rfl (jrf_ref _) ?_
  refine j_iload_n hC dX10_isLine_1 rfl ?_
  refine j_iload_n hC dX10_isLine_2 rfl ?_
  refine r_ci2 hC kv_X10_109 dX10_isLine_3 (m_X10_longOf hp (by assumption) (by omega)) hB rfl (by decide) (Nat.le_of_ble_eq_true rfl) ?_
  refine n_if_le (tgt := 26) hC dX10_isLine_6 (by decide) (by omega) (fun c1 => ?_) (fun c1 => ?_)
  · refine j_iconst (v := nI 0) hC dX10_isLine_26 (by decide) ?_
    exact j_iret hC9 rfl rfl dX10_isLine_27 ⟨_, ⟨(by first | exact jv (jb_t1 (line_iff.mpr ⟨by omega, fun h => absurd h.1 (by omega)⟩)) | exact jv (jb_t1 (line_iff.mpr ⟨by omega, fun h => absurd h.2 (by assumption)⟩)) | exact jv (jb_f0 (fun h => absurd (line_iff.mp h).1 (by omega))) | exact jv (jb_f0 (fun h => (line_iff.mp h).2 ⟨by omega, by assumption⟩))), rfl⟩, rfl⟩
  · refine j_iload_n hC dX10_isLine_9 rfl ?_
    refine j_iconst (v := nI 4) hC dX10_isLine_10 (by decide) ?_
    refine n_icmp_ne (tgt := 22) hC dX10_isLine_11 (by decide) (by omega) (by omega) (fun c2 => ?_) (fun c2 => ?_)
    · refine j_iconst (v := nI 1) hC dX10_isLine_22 (by decide) ?_
      refine j_goto (tgt := 27) hC dX10_isLine_23 (by decide) ?_
      exact j_iret hC9 rfl rfl dX10_isLine_27 ⟨_, ⟨(by first | exact jv (jb_t1 (line_iff.mpr ⟨by omega, fun h => absurd h.1 (by omega)⟩)) | exact jv (jb_t1 (line_iff.mpr ⟨by omega, fun h => absurd h.2 (by assumption)⟩)) | exact jv (jb_f0 (fun h => absurd (line_iff.mp h).1 (by omega))) | exact jv (jb_f0 (fun h => (line_iff.mp h).2 ⟨by omega, by assumption⟩))), rfl⟩, rfl⟩
    · refine j_aload_n hC dX10_isLine_14 rfl (jrf_ref _) ?_
      refine j_iload_n hC dX10_isLine_15 rfl ?_
      refine r_ci1 hC kv_X10_134 dX10_isLine_16 (m_X10_isHome hp (by assumption)) hB rfl (by decide) (Nat.le_of_ble_eq_true rfl) ?_
      refine jb_if_ne (tgt := 26) hC dX10_isLine_19 (by decide) (fun c3 => ?_) (fun c3 => ?_)
      · refine j_iconst (v := nI 0) hC dX10_isLine_26 (by decide) ?_
        exact j_iret hC9 rfl rfl dX10_isLine_27 ⟨_, ⟨(by first | exact jv (jb_t1 (line_iff.mpr ⟨by omega, fun h => absurd h.1 (by omega)⟩)) | exact jv (jb_t1 (line_iff.mpr ⟨by omega, fun h => absurd h.2 (by assumption)⟩)) | exact jv (jb_f0 (fun h => absurd (line_iff.mp h).1 (by omega))) | exact jv (jb_f0 (fun h => (line_iff.mp h).2 ⟨by omega, by assumption⟩))), rfl⟩, rfl⟩
      · refine j_iconst (v := nI 1) hC dX10_isLine_22 (by decide) ?_
        refine j_goto (tgt := 27) hC dX10_isLine_23 (by decide) ?_
        exact j_iret hC9 rfl rfl dX10_isLine_27 ⟨_, ⟨(by first | exact jv (jb_t1 (line_iff.mpr ⟨by omega, fun h => absurd h.1 (by omega)⟩)) | exact jv (jb_t1 (line_iff.mpr ⟨by omega, fun h => absurd h.2 (by assumption)⟩)) | exact jv (jb_f0 (fun h => absurd (line_iff.mp h).1 (by omega))) | exact jv (jb_f0 (fun h => (line_iff.mp h).2 ⟨by omega, by assumption⟩))), rfl⟩, rfl⟩
set_option maxHeartbeats 4000000 in
set_option maxRecDepth 100000 in
theorem m_X10_lines {R : rR} {S : aSet} {r : Nat} (hp : rPre R S) (hr : r < (sRecs S).length) : RI jX10_lines 4 [.int (nI r)] R (nI (linesA S (sAt S r))) R := by
  intro G o M0 hs hBo
  refine jMet_of [some (.ref o), some (.int (nI r)), none, none] (by decide) rfl (Nat.le_of_ble_eq_true rfl) rfl hs ?_
  intro C hC9 hG
  have hC := hC9.z
  have hB : jB C ≤ o := by rw [jB, hG]; exact hBo
  refine j_iconst (v := nI 0) hC dX10_lines_0 (by decide) ?_
  refine j_istore_n2 hC dX10_lines_1 (by decide) rfl ?_
  refine j_iconst (v := nI 0) hC dX10_lines_2 (by decide) ?_
  refine j_istore_n3 hC dX10_lines_3 (by decide) rfl ?_
  suffices K : ∀ (n9 : Nat) (k : Nat), 5 - k < n9 → (k ≤ 5) → J C (rM o M0 (R)) 0 0 4 [some (.ref o), some (.int (nI (r))), some (.int (nI (cntTo (isLineA S (sAt S r)) k))), some (.int (nI (k)))] [] from j_R (rfl) (K _ (0) (Nat.lt_succ_self _) (by omega))
  intro n9
  induction n9 with
  | zero => intro k hm; omega
  | succ n9 ih =>
    intro k hm hk
    refine j_iload_n hC dX10_lines_4 rfl ?_
    refine j_iconst (v := nI 5) hC dX10_lines_5 (by decide) ?_
    refine n_icmp_ge (tgt := 32) hC dX10_lines_6 (by decide) (by omega) (by omega) (fun c1 => ?_) (fun c1 => ?_)
    · refine j_iload_n hC dX10_lines_32 rfl ?_
      exact j_iret hC9 rfl rfl dX10_lines_33 ⟨_, ⟨(jv (by rw [show k = 5 by omega]; rfl)), rfl⟩, rfl⟩
    · refine j_iload_n hC dX10_lines_9 rfl ?_
      refine j_aload_n hC dX10_lines_10 rfl (jrf_ref _) ?_
      refine j_iload_n hC dX10_lines_11 rfl ?_
      refine j_iload_n hC dX10_lines_12 rfl ?_
      refine r_ci2 hC kv_X10_137 dX10_lines_13 (m_X10_isLine hp (by assumption) (by omega)) hB rfl (by decide) (Nat.le_of_ble_eq_true rfl) ?_
      suffices K : J C (rM o M0 (R)) 0 0 24 [some (.ref o), some (.int (nI (r))), some (.int (nI (cntTo (isLineA S (sAt S r)) k))), some (.int (nI (k)))] [.int (nI (if isLineA S (sAt S (r)) (k) = true then 1 else 0)), .int (nI (cntTo (isLineA S (sAt S r)) k))] by
        refine jb_if_eq (tgt := 23) hC dX10_lines_16 (by decide) (fun c2 => ?_) (fun c2 => ?_)
        · refine j_iconst (v := nI 0) hC dX10_lines_23 (by decide) ?_
          exact j_top (by first | rw [if_pos (by assumption)] | rw [if_neg (by assumption)]) K
        · refine j_iconst (v := nI 1) hC dX10_lines_19 (by decide) ?_
          refine j_goto (tgt := 24) hC dX10_lines_20 (by decide) ?_
          exact j_top (by first | rw [if_pos (by assumption)] | rw [if_neg (by assumption)]) K
      refine n_iadd hC dX10_lines_24 ?_
      refine j_istore_n2 hC dX10_lines_25 (by decide) rfl ?_
      refine j_iinc_3 (v := nI (k + 1)) hC dX10_lines_26 (nI_add _ _) (by decide) rfl ?_
      refine j_goto (tgt := 4) hC dX10_lines_29 (by decide) ?_
      exact j_R (rfl) (ih (k + 1) (by omega) (by omega))
set_option maxHeartbeats 4000000 in
set_option maxRecDepth 100000 in
theorem m_X10_addressLong {R : rR} {S : aSet} {r : Nat} (hp : rPre R S) (hr : r < (sRecs S).length) : RI jX10_addressLong 4 [.int (nI r)] R (zI ((addrA S (sAt S r) : Int) - 1)) R := by
  intro G o M0 hs hBo
  refine jMet_of [some (.ref o), some (.int (nI r)), none, none] (by decide) rfl (Nat.le_of_ble_eq_true rfl) rfl hs ?_
  intro C hC9 hG
  have hC := hC9.z
  have hB : jB C ≤ o := by rw [jB, hG]; exact hBo
  have hl12 := fun f hf => rp_l12 (f := f) hp hr hf
  refine j_iconst (v := zI (-1)) hC dX10_addressLong_0 (by decide) ?_
  refine j_istore_n2 hC dX10_addressLong_1 (by decide) rfl ?_
  refine j_iconst (v := nI 0) hC dX10_addressLong_2 (by decide) ?_
  refine j_istore_n3 hC dX10_addressLong_3 (by decide) rfl ?_
  suffices K : ∀ (n9 : Nat) (k : Nat) (n : Int), 5 - k < n9 → (k ≤ 5) → (n = (sumTo (fun f => if isLineA S (sAt S r) f = true then ((sAt S r).2.2 f).length + 1 else 0) k : Int) - 1) → J C (rM o M0 (R)) 0 0 4 [some (.ref o), some (.int (nI (r))), some (.int (zI (n))), some (.int (nI (k)))] [] from j_R (rfl) (K _ (0) (-1) (Nat.lt_succ_self _) (by omega) (rfl))
  intro n9
  induction n9 with
  | zero => intro k n hm; omega
  | succ n9 ih =>
    intro k n hm hk hn
    refine j_iload_n hC dX10_addressLong_4 rfl ?_
    refine j_iconst (v := nI 5) hC dX10_addressLong_5 (by decide) ?_
    refine n_icmp_ge (tgt := 39) hC dX10_addressLong_6 (by decide) (by omega) (by omega) (fun c1 => ?_) (fun c1 => ?_)
    · refine j_iload_n hC dX10_addressLong_39 rfl ?_
      exact j_iret hC9 rfl rfl dX10_addressLong_40 ⟨_, ⟨(jv (by rw [hn, show k = 5 by omega]; rfl)), rfl⟩, rfl⟩
    · refine j_iload_n hC dX10_addressLong_9 rfl ?_
      refine j_aload_n hC dX10_addressLong_10 rfl (jrf_ref _) ?_
      refine j_iload_n hC dX10_addressLong_11 rfl ?_
      refine j_iload_n hC dX10_addressLong_12 rfl ?_
      refine r_ci2 hC kv_X10_137 dX10_addressLong_13 (m_X10_isLine hp (by assumption) (by omega)) hB rfl (by decide) (Nat.le_of_ble_eq_true rfl) ?_
      suffices K : J C (rM o M0 (R)) 0 0 31 [some (.ref o), some (.int (nI (r))), some (.int (zI (n))), some (.int (nI (k)))] [.int (nI (if isLineA S (sAt S (r)) (k) = true then ((sAt S r).2.2 k).length + 1 else 0)), .int (zI (n))] by
        refine jb_if_eq (tgt := 30) hC dX10_addressLong_16 (by decide) (fun c2 => ?_) (fun c2 => ?_)
        · refine j_iconst (v := nI 0) hC dX10_addressLong_30 (by decide) ?_
          exact j_top (by first | rw [if_pos (by assumption)] | rw [if_neg (by assumption)]) K
        · refine j_aload_n hC dX10_addressLong_19 rfl (jrf_ref _) ?_
          refine j_iload_n hC dX10_addressLong_20 rfl ?_
          refine j_iload_n hC dX10_addressLong_21 rfl ?_
          refine r_ci2 hC kv_X10_109 dX10_addressLong_22 (m_X10_longOf hp (by assumption) (by omega)) hB rfl (by decide) (Nat.le_of_ble_eq_true rfl) ?_
          refine j_iconst (v := nI 1) hC dX10_addressLong_25 (by decide) ?_
          refine n_iadd hC dX10_addressLong_26 ?_
          refine j_goto (tgt := 31) hC dX10_addressLong_27 (by decide) ?_
          exact j_top (by first | rw [if_pos (by assumption)] | rw [if_neg (by assumption)]) K
      refine z_iadd (a := (n)) (b := ((if isLineA S (sAt S (r)) (k) = true then ((sAt S r).2.2 k).length + 1 else 0 : Nat) : Int)) hC dX10_addressLong_31 ?_
      refine j_istore_n2 hC dX10_addressLong_32 (by decide) rfl ?_
      refine j_iinc_3 (v := nI (k + 1)) hC dX10_addressLong_33 (nI_add _ _) (by decide) rfl ?_
      refine j_goto (tgt := 4) hC dX10_addressLong_36 (by decide) ?_
      exact j_R (rfl) (ih (k + 1) (((n) + ((if isLineA S (sAt S (r)) (k) = true then ((sAt S r).2.2 k).length + 1 else 0 : Nat) : Int))) (by omega) (by omega) (by simp only [sumTo]; omega))
set_option maxHeartbeats 4000000 in
set_option maxRecDepth 100000 in
theorem m_X10_areLike {R : rR} {S : aSet} {r q : Nat} (hp : rPre R S) (hr : r < (sRecs S).length) (hq : q < (sRecs S).length) : RI jX10_areLike 3 [.int (nI r), .int (nI q)] R (jb (likeA S r q 5 = true)) R := by
  intro G o M0 hs hBo
  refine jMet_of [some (.ref o), some (.int (nI r)), some (.int (nI q)), none, none] (by decide) rfl (Nat.le_of_ble_eq_true rfl) rfl hs ?_
  intro C hC9 hG
  have hC := hC9.z
  have hB : jB C ≤ o := by rw [jB, hG]; exact hBo
  have h20 := rp_n20 hp
  have hky : sKeys S < 32 := hp.2.2.1
  refine j_aload_n hC dX10_areLike_0 rfl (jrf_ref _) ?_
  refine r_get hC kf_X10_9 dX10_areLike_1 rfl ?_
  refine j_iconst (v := nI 1) hC dX10_areLike_4 (by decide) ?_
  refine r_aldN (k := 1) (j := 1) (x := nI (sKeys S)) hC dX10_areLike_5 (c := 1) (n := 14790) (by decide) rfl rfl (by omega) (by decide) (rp_keys hp) ?_
  suffices K : J C (rM o M0 (R)) 0 0 19 [some (.ref o), some (.int (nI (r))), some (.int (nI (q))), none, none] [.int (jb (likeA S r q 0 = true))] by
    refine n_if_ne (tgt := 14) hC dX10_areLike_6 (by decide) (by omega) (fun c1 => ?_) (fun c1 => ?_)
    · refine j_iconst (v := nI 1) hC dX10_areLike_14 (by decide) ?_
      refine j_goto (tgt := 19) hC dX10_areLike_15 (by decide) ?_
      exact j_top (jb_t1 (decide_eq_true (by omega))) K
    · refine j_iload_n hC dX10_areLike_9 rfl ?_
      refine j_iload_n hC dX10_areLike_10 rfl ?_
      refine n_icmp_ne (tgt := 18) hC dX10_areLike_11 (by decide) (by omega) (by omega) (fun c2 => ?_) (fun c2 => ?_)
      · refine j_iconst (v := nI 0) hC dX10_areLike_18 (by decide) ?_
        exact j_top (jb_f0 (fun h => absurd (of_decide_eq_true h) (by omega))) K
      · refine j_iconst (v := nI 1) hC dX10_areLike_14 (by decide) ?_
        refine j_goto (tgt := 19) hC dX10_areLike_15 (by decide) ?_
        exact j_top (jb_t1 (decide_eq_true (by omega))) K
  refine j_istore_n3 hC dX10_areLike_19 (by decide) rfl ?_
  refine j_iconst (v := nI 0) hC dX10_areLike_20 (by decide) ?_
  refine j_istore_4 hC dX10_areLike_21 (by decide) rfl ?_
  suffices K : ∀ (n9 : Nat) (k : Nat), 5 - k < n9 → (k ≤ 5) → J C (rM o M0 (R)) 0 0 23 [some (.ref o), some (.int (nI (r))), some (.int (nI (q))), some (.int (jb (likeA S r q k = true))), some (.int (nI (k)))] [] from j_R (rfl) (K _ (0) (Nat.lt_succ_self _) (by omega))
  intro n9
  induction n9 with
  | zero => intro k hm; omega
  | succ n9 ih =>
    intro k hm hk
    refine j_iload hC dX10_areLike_23 rfl ?_
    refine j_iconst (v := nI 5) hC dX10_areLike_25 (by decide) ?_
    refine n_icmp_ge (tgt := 70) hC dX10_areLike_26 (by decide) (by omega) (by omega) (fun c3 => ?_) (fun c3 => ?_)
    · refine j_iload_n hC dX10_areLike_70 rfl ?_
      exact j_iret hC9 rfl jb_nar dX10_areLike_71 ⟨_, ⟨(jv (by rw [show k = 5 by omega])), rfl⟩, rfl⟩
    · refine j_iload_n hC dX10_areLike_29 rfl ?_
      suffices K : J C (rM o M0 (R)) 0 0 63 [some (.ref o), some (.int (nI (r))), some (.int (nI (q))), some (.int (jb (likeA S r q k = true))), some (.int (nI (k)))] [.int (jb (likeA S r q (k + 1) = true))] by
        refine jb_if_eq (tgt := 62) hC dX10_areLike_30 (by decide) (fun c4 => ?_) (fun c4 => ?_)
        · refine j_iconst (v := nI 0) hC dX10_areLike_62 (by decide) ?_
          exact j_top (jb_f0 (like_f (by first | exact Or.inl (by assumption) | exact Or.inr ⟨by assumption, by assumption⟩))) K
        · refine j_aload_n hC dX10_areLike_33 rfl (jrf_ref _) ?_
          refine r_get hC kf_X10_9 dX10_areLike_34 rfl ?_
          refine j_iconst (v := nI 1) hC dX10_areLike_37 (by decide) ?_
          refine r_aldN (k := 1) (j := 1) (x := nI (sKeys S)) hC dX10_areLike_38 (c := 1) (n := 14790) (by decide) rfl rfl (by omega) (by decide) (rp_keys hp) ?_
          refine j_iload hC dX10_areLike_39 rfl ?_
          refine j_ishr hC dX10_areLike_41 ?_
          refine j_iconst (v := nI 1) hC dX10_areLike_42 (by decide) ?_
          refine j_iand hC dX10_areLike_43 ?_
          refine j_top (sh_bit (by omega) (by omega)) ?_
          refine n_if_eq (tgt := 58) hC dX10_areLike_44 (by decide) (by omega) (fun c5 => ?_) (fun c5 => ?_)
          · refine j_iconst (v := nI 1) hC dX10_areLike_58 (by decide) ?_
            refine j_goto (tgt := 63) hC dX10_areLike_59 (by decide) ?_
            exact j_top (jb_t1 (like_t (by assumption) (by first | exact Or.inl (by assumption) | exact Or.inr (by assumption)))) K
          · refine j_aload_n hC dX10_areLike_47 rfl (jrf_ref _) ?_
            refine j_iload_n hC dX10_areLike_48 rfl ?_
            refine j_iload_n hC dX10_areLike_49 rfl ?_
            refine j_iload hC dX10_areLike_50 rfl ?_
            refine r_ci3 hC kv_X10_240 dX10_areLike_52 (m_X10_isSame hp (by assumption) (by assumption) (by omega)) hB rfl (by decide) (Nat.le_of_ble_eq_true rfl) ?_
            refine jb_if_eq (tgt := 62) hC dX10_areLike_55 (by decide) (fun c6 => ?_) (fun c6 => ?_)
            · refine j_iconst (v := nI 0) hC dX10_areLike_62 (by decide) ?_
              exact j_top (jb_f0 (like_f (by first | exact Or.inl (by assumption) | exact Or.inr ⟨by assumption, by assumption⟩))) K
            · refine j_iconst (v := nI 1) hC dX10_areLike_58 (by decide) ?_
              refine j_goto (tgt := 63) hC dX10_areLike_59 (by decide) ?_
              exact j_top (jb_t1 (like_t (by assumption) (by first | exact Or.inl (by assumption) | exact Or.inr (by assumption)))) K
      refine j_istore_n3 hC dX10_areLike_63 (by decide) rfl ?_
      refine j_iinc_4 (v := nI (k + 1)) hC dX10_areLike_64 (nI_add _ _) (by decide) rfl ?_
      refine j_goto (tgt := 23) hC dX10_areLike_67 (by decide) ?_
      exact j_R (rfl) (ih (k + 1) (by omega) (by omega))
theorem keptTo_s {S : aSet} {r p k : Nat} {b : Bool} : keptTo S r p b (k + 1) = keptS S r p (keptTo S r p b k) (if b = true then (sRecs S).length - 1 - k else k) := rfl
section KS
variable {S : aSet} {r p m q : Nat} {x : Option Nat}
theorem ks_skip (h : outA S (sAt S q) = true ∨ ¬ likeA S r q 5 = true) : x = keptS S r p x q := (if_pos h).symm
theorem ks_new (h1 : ¬ outA S (sAt S q) = true) (h2 : likeA S r q 5 = true) : some q = keptS S r p none q := by
  rw [keptS, if_neg (fun h => h.elim h1 (fun e => e h2))]
theorem ks_rep (h1 : ¬ outA S (sAt S q) = true) (h2 : likeA S r q 5 = true) (h3 : p = 1 ∨ p = 2 ∧ (sAt S m).2.1 < (sAt S q).2.1) : some q = keptS S r p (some m) q := by
  rw [keptS, if_neg (fun h => h.elim h1 (fun e => e h2))]
  exact (if_pos h3).symm
theorem ks_old (h1 : ¬ outA S (sAt S q) = true) (h2 : likeA S r q 5 = true) (h3 : ¬ (p = 1 ∨ p = 2 ∧ (sAt S m).2.1 < (sAt S q).2.1)) : some m = keptS S r p (some m) q := by
  rw [keptS, if_neg (fun h => h.elim h1 (fun e => e h2))]
  exact (if_neg h3).symm
theorem ks_or (h : keptS S r p x q = some m) : x = some m ∨ q = m := by
  unfold keptS at h
  split at h
  · exact Or.inl h
  · split at h
    · exact Or.inr (Option.some.inj h)
    · split at h
      · exact Or.inr (Option.some.inj h)
      · exact Or.inl h
end KS
theorem keptTo_lt {S : aSet} {r p m : Nat} {b : Bool} : ∀ {k : Nat}, k ≤ (sRecs S).length → keptTo S r p b k = some m → m < (sRecs S).length
  | 0, _, h => by simp [keptTo] at h
  | k + 1, hk, h => by
    rcases ks_or h with h | h
    · exact keptTo_lt (by omega) h
    · rw [← h]; split <;> omega
theorem optZ_some {x : Option Nat} (h : 0 ≤ optZ x) : ∃ m, x = some m := by
  cases x with
  | none => exact absurd h (by decide)
  | some m => exact ⟨m, rfl⟩
theorem optZ_none {x : Option Nat} (h : optZ x < 0) : x = none := by
  cases x with
  | none => rfl
  | some m => simp only [optZ] at h; omega
theorem optZ_zB {x : Option Nat} {n : Nat} (h : ∀ m, x = some m → m < n) : -1 ≤ optZ x ∧ optZ x < n + 1 := by
  cases x with
  | none => simp only [optZ]; omega
  | some m => have := h m rfl; simp only [optZ]; omega
set_option maxHeartbeats 4000000 in
set_option maxRecDepth 100000 in
theorem m_X10_keptOf {R : rR} {S : aSet} {r p : Nat} {b : Bool} (hp : rPre R S) (hr : r < (sRecs S).length) (hpp : p ≤ 2) : RI jX10_keptOf 4 [.int (nI r), .int (nI p), .int (jb (b = true))] R (zI (optZ (keptA S r p b))) R := by
  intro G o M0 hs hBo
  refine jMet_of [some (.ref o), some (.int (nI r)), some (.int (nI p)), some (.int (jb (b = true))), none, none, none] (by decide) rfl (Nat.le_of_ble_eq_true rfl) rfl hs ?_
  intro C hC9 hG
  have hC := hC9.z
  have hB : jB C ≤ o := by rw [jB, hG]; exact hBo
  have h20 := rp_n20 hp
  have hc100 : ∀ i, i < (sRecs S).length → (sAt S i).2.1 < 100 := fun i hi => (rp_recOK hp hi).2.1
  refine j_iconst (v := zI (-1)) hC dX10_keptOf_0 (by decide) ?_
  refine j_istore_4 hC dX10_keptOf_1 (by decide) rfl ?_
  refine j_iconst (v := nI 0) hC dX10_keptOf_3 (by decide) ?_
  refine j_istore_5 hC dX10_keptOf_4 (by decide) rfl ?_
  suffices K : ∀ (n9 : Nat) (k : Nat) (x : Option Nat), (sRecs S).length - k < n9 → (k ≤ (sRecs S).length) → (x = keptTo S r p b k) → J C (rM o M0 (R)) 0 0 6 [some (.ref o), some (.int (nI (r))), some (.int (nI (p))), some (.int (jb (b = true))), some (.int (zI (optZ x))), some (.int (nI (k))), none] [] from j_R (rfl) (K _ (0) (none) (Nat.lt_succ_self _) (Nat.zero_le _) (rfl))
  intro n9
  induction n9 with
  | zero => intro k x hm; omega
  | succ n9 ih =>
    intro k x hm hk hx
    have hzx := optZ_zB (fun m hm => keptTo_lt (m := m) hk (hx.symm.trans hm))
    refine j_iload hC dX10_keptOf_6 rfl ?_
    refine j_aload_n hC dX10_keptOf_8 rfl (jrf_ref _) ?_
    refine r_get hC kf_X10_9 dX10_keptOf_9 rfl ?_
    refine j_iconst (v := nI 0) hC dX10_keptOf_12 (by decide) ?_
    refine r_aldN (k := 1) (j := 0) (x := nI ((sRecs S).length)) hC dX10_keptOf_13 (c := 1) (n := 14790) (by decide) rfl rfl (by omega) (by decide) (rp_many hp) ?_
    refine n_icmp_ge (tgt := 101) hC dX10_keptOf_14 (by decide) (by omega) (by omega) (fun c1 => ?_) (fun c1 => ?_)
    · refine j_iload hC dX10_keptOf_101 rfl ?_
      exact j_iret hC9 rfl rfl dX10_keptOf_103 ⟨_, ⟨(jv (by rw [hx, show k = (sRecs S).length by omega]; rfl)), rfl⟩, rfl⟩
    · refine j_iload_n hC dX10_keptOf_17 rfl ?_
      suffices K : J C (rM o M0 (R)) 0 0 37 [some (.ref o), some (.int (nI (r))), some (.int (nI (p))), some (.int (jb (b = true))), some (.int (zI (optZ x))), some (.int (nI (k))), none] [.int (nI (if b = true then (sRecs S).length - 1 - k else k))] by
        refine jb_if_eq (tgt := 35) hC dX10_keptOf_18 (by decide) (fun c2 => ?_) (fun c2 => ?_)
        · refine j_iload hC dX10_keptOf_35 rfl ?_
          exact j_top (by first | rw [if_pos (by assumption)] | rw [if_neg (by assumption)]) K
        · refine j_aload_n hC dX10_keptOf_21 rfl (jrf_ref _) ?_
          refine r_get hC kf_X10_9 dX10_keptOf_22 rfl ?_
          refine j_iconst (v := nI 0) hC dX10_keptOf_25 (by decide) ?_
          refine r_aldN (k := 1) (j := 0) (x := nI ((sRecs S).length)) hC dX10_keptOf_26 (c := 1) (n := 14790) (by decide) rfl rfl (by omega) (by decide) (rp_many hp) ?_
          refine j_iconst (v := nI 1) hC dX10_keptOf_27 (by decide) ?_
          refine n_isub hC dX10_keptOf_28 (by omega) ?_
          refine j_iload hC dX10_keptOf_29 rfl ?_
          refine n_isub hC dX10_keptOf_31 (by omega) ?_
          refine j_goto (tgt := 37) hC dX10_keptOf_32 (by decide) ?_
          exact j_top (by first | rw [if_pos (by assumption)] | rw [if_neg (by assumption)]) K
      refine j_istore_6 hC dX10_keptOf_37 (by decide) rfl ?_
      have hq : (if b = true then (sRecs S).length - 1 - k else k) < (sRecs S).length := by split <;> omega
      have hq2 := hc100 _ hq
      refine j_aload_n hC dX10_keptOf_39 rfl (jrf_ref _) ?_
      refine j_iload hC dX10_keptOf_40 rfl ?_
      refine r_ci1 hC kv_X10_243 dX10_keptOf_42 (m_X10_isOut hp hq) hB rfl (by decide) (Nat.le_of_ble_eq_true rfl) ?_
      refine jb_if_ne (tgt := 95) hC dX10_keptOf_45 (by decide) (fun c3 => ?_) (fun c3 => ?_)
      · refine j_iinc_5 (v := nI (k + 1)) hC dX10_keptOf_95 (nI_add _ _) (by decide) rfl ?_
        refine j_goto (tgt := 6) hC dX10_keptOf_98 (by decide) ?_
        exact j_R (rfl) (j_L (jle_s (jle_s (jle_s (jle_s (jle_s (jle_s (jle_n (jle_0)))))))) (ih (k + 1) (x) (by omega) (by omega) (by rw [keptTo_s, ← hx]; first | exact ks_skip (Or.inl (by assumption)) | exact ks_skip (Or.inr (by assumption)) | exact ks_new (by assumption) (by assumption) | exact ks_rep (by assumption) (by assumption) (by omega) | exact ks_old (by assumption) (by assumption) (by omega))))
      · refine j_aload_n hC dX10_keptOf_48 rfl (jrf_ref _) ?_
        refine j_iload_n hC dX10_keptOf_49 rfl ?_
        refine j_iload hC dX10_keptOf_50 rfl ?_
        refine r_ci2 hC kv_X10_246 dX10_keptOf_52 (m_X10_areLike hp (by assumption) hq) hB rfl (by decide) (Nat.le_of_ble_eq_true rfl) ?_
        refine jb_if_ne (tgt := 61) hC dX10_keptOf_55 (by decide) (fun c4 => ?_) (fun c4 => ?_)
        · refine j_iload hC dX10_keptOf_61 rfl ?_
          refine z_if_lt (a := (optZ x)) (tgt := 91) hC dX10_keptOf_63 (by decide) (by unfold zB; omega) (fun c5 => ?_) (fun c5 => ?_)
          · first | (obtain rfl := optZ_none (x := x) (by assumption)) | skip
            refine j_iload hC dX10_keptOf_91 rfl ?_
            refine j_istore_4 hC dX10_keptOf_93 (by decide) rfl ?_
            refine j_iinc_5 (v := nI (k + 1)) hC dX10_keptOf_95 (nI_add _ _) (by decide) rfl ?_
            refine j_goto (tgt := 6) hC dX10_keptOf_98 (by decide) ?_
            exact j_R (rfl) (j_L (jle_s (jle_s (jle_s (jle_s (jle_s (jle_s (jle_n (jle_0)))))))) (ih (k + 1) ((some (if b = true then (sRecs S).length - 1 - k else k))) (by omega) (by omega) (by rw [keptTo_s, ← hx]; first | exact ks_skip (Or.inl (by assumption)) | exact ks_skip (Or.inr (by assumption)) | exact ks_new (by assumption) (by assumption) | exact ks_rep (by assumption) (by assumption) (by omega) | exact ks_old (by assumption) (by assumption) (by omega))))
          · obtain ⟨m, rfl⟩ := optZ_some (x := x) (by assumption)
            have hm := keptTo_lt hk hx.symm
            have hm2 := hc100 _ hm
            refine j_iload_n hC dX10_keptOf_66 rfl ?_
            refine j_iconst (v := nI 1) hC dX10_keptOf_67 (by decide) ?_
            refine n_icmp_eq (tgt := 91) hC dX10_keptOf_68 (by decide) (by omega) (by omega) (fun c6 => ?_) (fun c6 => ?_)
            · first | (obtain rfl := optZ_none (x := x) (by assumption)) | skip
              refine j_iload hC dX10_keptOf_91 rfl ?_
              refine j_istore_4 hC dX10_keptOf_93 (by decide) rfl ?_
              refine j_iinc_5 (v := nI (k + 1)) hC dX10_keptOf_95 (nI_add _ _) (by decide) rfl ?_
              refine j_goto (tgt := 6) hC dX10_keptOf_98 (by decide) ?_
              exact j_R (rfl) (j_L (jle_s (jle_s (jle_s (jle_s (jle_s (jle_s (jle_n (jle_0)))))))) (ih (k + 1) ((some (if b = true then (sRecs S).length - 1 - k else k))) (by omega) (by omega) (by rw [keptTo_s, ← hx]; first | exact ks_skip (Or.inl (by assumption)) | exact ks_skip (Or.inr (by assumption)) | exact ks_new (by assumption) (by assumption) | exact ks_rep (by assumption) (by assumption) (by omega) | exact ks_old (by assumption) (by assumption) (by omega))))
            · refine j_iload_n hC dX10_keptOf_71 rfl ?_
              refine j_iconst (v := nI 2) hC dX10_keptOf_72 (by decide) ?_
              refine n_icmp_ne (tgt := 95) hC dX10_keptOf_73 (by decide) (by omega) (by omega) (fun c7 => ?_) (fun c7 => ?_)
              · refine j_iinc_5 (v := nI (k + 1)) hC dX10_keptOf_95 (nI_add _ _) (by decide) rfl ?_
                refine j_goto (tgt := 6) hC dX10_keptOf_98 (by decide) ?_
                exact j_R (rfl) (j_L (jle_s (jle_s (jle_s (jle_s (jle_s (jle_s (jle_n (jle_0)))))))) (ih (k + 1) ((some (m))) (by omega) (by omega) (by rw [keptTo_s, ← hx]; first | exact ks_skip (Or.inl (by assumption)) | exact ks_skip (Or.inr (by assumption)) | exact ks_new (by assumption) (by assumption) | exact ks_rep (by assumption) (by assumption) (by omega) | exact ks_old (by assumption) (by assumption) (by omega))))
              · refine j_aload_n hC dX10_keptOf_76 rfl (jrf_ref _) ?_
                refine j_iload hC dX10_keptOf_77 rfl ?_
                refine r_ci1 hC kv_X10_141 dX10_keptOf_79 (m_X10_countOf hp (by assumption)) hB rfl (by decide) (Nat.le_of_ble_eq_true rfl) ?_
                refine j_aload_n hC dX10_keptOf_82 rfl (jrf_ref _) ?_
                refine j_iload hC dX10_keptOf_83 rfl ?_
                refine r_ci1 hC kv_X10_141 dX10_keptOf_85 (m_X10_countOf hp (by assumption)) hB rfl (by decide) (Nat.le_of_ble_eq_true rfl) ?_
                refine n_icmp_le (tgt := 95) hC dX10_keptOf_88 (by decide) (by omega) (by omega) (fun c8 => ?_) (fun c8 => ?_)
                · refine j_iinc_5 (v := nI (k + 1)) hC dX10_keptOf_95 (nI_add _ _) (by decide) rfl ?_
                  refine j_goto (tgt := 6) hC dX10_keptOf_98 (by decide) ?_
                  exact j_R (rfl) (j_L (jle_s (jle_s (jle_s (jle_s (jle_s (jle_s (jle_n (jle_0)))))))) (ih (k + 1) ((some (m))) (by omega) (by omega) (by rw [keptTo_s, ← hx]; first | exact ks_skip (Or.inl (by assumption)) | exact ks_skip (Or.inr (by assumption)) | exact ks_new (by assumption) (by assumption) | exact ks_rep (by assumption) (by assumption) (by omega) | exact ks_old (by assumption) (by assumption) (by omega))))
                · first | (obtain rfl := optZ_none (x := x) (by assumption)) | skip
                  refine j_iload hC dX10_keptOf_91 rfl ?_
                  refine j_istore_4 hC dX10_keptOf_93 (by decide) rfl ?_
                  refine j_iinc_5 (v := nI (k + 1)) hC dX10_keptOf_95 (nI_add _ _) (by decide) rfl ?_
                  refine j_goto (tgt := 6) hC dX10_keptOf_98 (by decide) ?_
                  exact j_R (rfl) (j_L (jle_s (jle_s (jle_s (jle_s (jle_s (jle_s (jle_n (jle_0)))))))) (ih (k + 1) ((some (if b = true then (sRecs S).length - 1 - k else k))) (by omega) (by omega) (by rw [keptTo_s, ← hx]; first | exact ks_skip (Or.inl (by assumption)) | exact ks_skip (Or.inr (by assumption)) | exact ks_new (by assumption) (by assumption) | exact ks_rep (by assumption) (by assumption) (by omega) | exact ks_old (by assumption) (by assumption) (by omega))))
        · refine j_goto (tgt := 95) hC dX10_keptOf_58 (by decide) ?_
          refine j_iinc_5 (v := nI (k + 1)) hC dX10_keptOf_95 (nI_add _ _) (by decide) rfl ?_
          refine j_goto (tgt := 6) hC dX10_keptOf_98 (by decide) ?_
          exact j_R (rfl) (j_L (jle_s (jle_s (jle_s (jle_s (jle_s (jle_s (jle_n (jle_0)))))))) (ih (k + 1) (x) (by omega) (by omega) (by rw [keptTo_s, ← hx]; first | exact ks_skip (Or.inl (by assumption)) | exact ks_skip (Or.inr (by assumption)) | exact ks_new (by assumption) (by assumption) | exact ks_rep (by assumption) (by assumption) (by omega) | exact ks_old (by assumption) (by assumption) (by omega))))
