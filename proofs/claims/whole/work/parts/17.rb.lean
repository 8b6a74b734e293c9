def sm (c : Nat) : Nat := if 65 ≤ c ∧ c ≤ 90 then c + 32 else c
theorem cap_le {c : Nat} (h : c ≤ 126) : cap c ≤ 126 := by unfold cap; split <;> omega
theorem sm_le {c : Nat} (h : c ≤ 126) : sm c ≤ 126 := by unfold sm; split <;> omega
theorem sm_cap {a b : Nat} (ha : a ≤ 126) (hb : b ≤ 126) : sm a = sm b ↔ cap a = cap b := by
  unfold sm cap
  split <;> split <;> split <;> split <;> omega
set_option maxHeartbeats 4000000 in
set_option maxRecDepth 100000 in
theorem m_X10_capital {c : Nat} (hc : c ≤ 126) : SI jX10_capital 1 [.int (nI c)] (nI (cap c)) := by
  intro G M0 hs
  refine jMet_of [some (.int (nI c))] (by decide) rfl (Nat.le_of_ble_eq_true rfl) rfl hs ?_
  intro C hC9 hG
  have hC := hC9.z
  refine j_iload_n hC dX10_capital_0 rfl ?_
  refine j_bipush (v := nI 97) hC dX10_capital_1 (by decide) ?_
  refine j_bipush (v := nI 122) hC dX10_capital_3 (by decide) ?_
  refine s_ci3 hC ks_X10_88 dX10_capital_5 (m_X10_in) rfl (by decide) (Nat.le_of_ble_eq_true rfl) ?_
  refine j_top (jb_inN (by omega) (by omega) (by omega)) ?_
  refine jb_if_eq (tgt := 18) hC dX10_capital_8 (by decide) (fun c1 => ?_) (fun c1 => ?_)
  · refine j_iload_n hC dX10_capital_18 rfl ?_
    exact j_iret hC9 rfl rfl dX10_capital_19 ⟨(by rw [cap, if_neg c1]), rfl⟩
  · refine j_iload_n hC dX10_capital_11 rfl ?_
    refine j_bipush (v := nI 32) hC dX10_capital_12 (by decide) ?_
    refine n_isub hC dX10_capital_14 (by omega) ?_
    refine j_goto (tgt := 19) hC dX10_capital_15 (by decide) ?_
    exact j_iret hC9 rfl rfl dX10_capital_19 ⟨(by rw [cap, if_pos c1]), rfl⟩
set_option maxHeartbeats 4000000 in
set_option maxRecDepth 100000 in
theorem m_X10_small {c : Nat} (hc : c ≤ 126) : SI jX10_small 1 [.int (nI c)] (nI (sm c)) := by
  intro G M0 hs
  refine jMet_of [some (.int (nI c))] (by decide) rfl (Nat.le_of_ble_eq_true rfl) rfl hs ?_
  intro C hC9 hG
  have hC := hC9.z
  refine j_iload_n hC dX10_small_0 rfl ?_
  refine j_bipush (v := nI 65) hC dX10_small_1 (by decide) ?_
  refine j_bipush (v := nI 90) hC dX10_small_3 (by decide) ?_
  refine s_ci3 hC ks_X10_88 dX10_small_5 (m_X10_in) rfl (by decide) (Nat.le_of_ble_eq_true rfl) ?_
  refine j_top (jb_inN (by omega) (by omega) (by omega)) ?_
  refine jb_if_eq (tgt := 18) hC dX10_small_8 (by decide) (fun c1 => ?_) (fun c1 => ?_)
  · refine j_iload_n hC dX10_small_18 rfl ?_
    exact j_iret hC9 rfl rfl dX10_small_19 ⟨(by rw [sm, if_neg c1]), rfl⟩
  · refine j_iload_n hC dX10_small_11 rfl ?_
    refine j_bipush (v := nI 32) hC dX10_small_12 (by decide) ?_
    refine n_iadd hC dX10_small_14 ?_
    refine j_goto (tgt := 19) hC dX10_small_15 (by decide) ?_
    exact j_iret hC9 rfl rfl dX10_small_19 ⟨(by rw [sm, if_pos c1]), rfl⟩
theorem ofInt_sub {a b : Nat} : nI a - nI b = Int32.ofInt ((a : Int) - b) := by
  rw [Int32.ofInt_sub]
  rfl
theorem cmp_drop {t u : List Nat} {k : Nat} (hk : k < t.length) (hj : k < u.length) : cmpT (t.drop k) (u.drop k) = if cap (t.getD k 0) = cap (u.getD k 0) then cmpT (t.drop (k + 1)) (u.drop (k + 1)) else (cap (t.getD k 0) : Int) - cap (u.getD k 0) := by
  rw [List.drop_eq_getElem_cons hk, List.drop_eq_getElem_cons hj, cmpT]
  rw [List.getD_eq_getElem?_getD, List.getD_eq_getElem?_getD, List.getElem?_eq_getElem hk, List.getElem?_eq_getElem hj]
  rfl
theorem cmp_end {t u : List Nat} {k : Nat} (hk : k ≤ t.length) (hj : k ≤ u.length) (h : k = t.length ∨ k = u.length) : cmpT (t.drop k) (u.drop k) = (t.length : Int) - u.length := by
  rcases h with h | h
  · rw [show t.drop k = [] from List.drop_eq_nil_of_le (by omega)]
    simp only [cmpT, List.length_drop]
    omega
  · rw [show u.drop k = [] from List.drop_eq_nil_of_le (by omega)]
    by_cases e : k = t.length
    · rw [show t.drop k = [] from List.drop_eq_nil_of_le (by omega)]
      simp only [cmpT, List.length_nil]
      omega
    · rw [List.drop_eq_getElem_cons (show k < t.length by omega)]
      simp only [cmpT, List.length_drop]
      omega
theorem ofInt_ne0 {a b : Nat} (ha : a ≤ 126) (hb : b ≤ 126) : nI a - nI b = 0 ↔ a = b := by
  constructor
  · intro h
    have h2 := pk_sub_toInt (a := a) (b := b) (by omega) (by omega)
    rw [h] at h2
    have h3 : (0 : Int32).toInt = 0 := by decide
    rw [h3] at h2
    omega
  · intro h
    subst h
    exact Int32.sub_self _
set_option maxHeartbeats 4000000 in
set_option maxRecDepth 100000 in
theorem m_X10_compares {R : rR} {S : aSet} {r q f : Nat} (hp : rPre R S) (hr : r < (sRecs S).length) (hq : q < (sRecs S).length) (hf : f < 5) : RI jX10_compares 2 [.int (nI r), .int (nI q), .int (nI f)] R (Int32.ofInt (cmpT ((sAt S (r)).2.2 (f)) ((sAt S (q)).2.2 (f)))) R := by
  intro G o M0 hs hBo
  refine jMet_of [some (.ref o), some (.int (nI r)), some (.int (nI q)), some (.int (nI f)), none, none] (by decide) rfl (Nat.le_of_ble_eq_true rfl) rfl hs ?_
  intro C hC9 hG
  have hC := hC9.z
  have hB : jB C ≤ o := by rw [jB, hG]; exact hBo
  have hlr := rp_l12 hp hr hf
  have hlq := rp_l12 hp hq hf
  have hcr : ∀ j, j < ((sAt S r).2.2 f).length → ((sAt S r).2.2 f).getD j 0 ≤ 126 := fun j hj => (getD_lt126 ((rp_recOK hp hr).2.2 f hf).2 hj).2
  have hcq : ∀ j, j < ((sAt S q).2.2 f).length → ((sAt S q).2.2 f).getD j 0 ≤ 126 := fun j hj => (getD_lt126 ((rp_recOK hp hq).2.2 f hf).2 hj).2
  refine j_iconst (v := nI 0) hC dX10_compares_0 (by decide) ?_
  refine j_istore_4 hC dX10_compares_1 (by decide) rfl ?_
  suffices K : ∀ (n9 : Nat) (k : Nat), ((sAt S (r)).2.2 (f)).length - k < n9 → (k ≤ ((sAt S (r)).2.2 (f)).length) → (k ≤ ((sAt S (q)).2.2 (f)).length) → (cmpT ((sAt S (r)).2.2 (f)) ((sAt S (q)).2.2 (f)) = cmpT (((sAt S (r)).2.2 (f)).drop k) (((sAt S (q)).2.2 (f)).drop k)) → J C (rM o M0 (R)) 0 0 3 [some (.ref o), some (.int (nI (r))), some (.int (nI (q))), some (.int (nI (f))), some (.int (nI (k))), none] [] from j_R (rfl) (K _ (0) (Nat.lt_succ_self _) (Nat.zero_le _) (Nat.zero_le _) (rfl))
  intro n9
  induction n9 with
  | zero => intro k hm; omega
  | succ n9 ih =>
    intro k hm hk1 hk2 he
    refine j_iload hC dX10_compares_3 rfl ?_
    refine j_aload_n hC dX10_compares_5 rfl (jrf_ref _) ?_
    refine j_iload_n hC dX10_compares_6 rfl ?_
    refine j_iload_n hC dX10_compares_7 rfl ?_
    refine r_ci2 hC kv_X10_109 dX10_compares_8 (m_X10_longOf hp (by assumption) (by omega)) hB rfl (by decide) (Nat.le_of_ble_eq_true rfl) ?_
    refine n_icmp_ge (tgt := 64) hC dX10_compares_11 (by decide) (by omega) (by omega) (fun c1 => ?_) (fun c1 => ?_)
    · refine j_aload_n hC dX10_compares_64 rfl (jrf_ref _) ?_
      refine j_iload_n hC dX10_compares_65 rfl ?_
      refine j_iload_n hC dX10_compares_66 rfl ?_
      refine r_ci2 hC kv_X10_109 dX10_compares_67 (m_X10_longOf hp (by assumption) (by omega)) hB rfl (by decide) (Nat.le_of_ble_eq_true rfl) ?_
      refine j_aload_n hC dX10_compares_70 rfl (jrf_ref _) ?_
      refine j_iload_n hC dX10_compares_71 rfl ?_
      refine j_iload_n hC dX10_compares_72 rfl ?_
      refine r_ci2 hC kv_X10_109 dX10_compares_73 (m_X10_longOf hp (by assumption) (by omega)) hB rfl (by decide) (Nat.le_of_ble_eq_true rfl) ?_
      refine j_isub hC dX10_compares_76 ?_
      exact j_iret hC9 rfl rfl dX10_compares_77 ⟨_, ⟨(by rw [he, cmp_end (by omega) (by omega) (by omega), ofInt_sub]), rfl⟩, rfl⟩
    · refine j_iload hC dX10_compares_14 rfl ?_
      refine j_aload_n hC dX10_compares_16 rfl (jrf_ref _) ?_
      refine j_iload_n hC dX10_compares_17 rfl ?_
      refine j_iload_n hC dX10_compares_18 rfl ?_
      refine r_ci2 hC kv_X10_109 dX10_compares_19 (m_X10_longOf hp (by assumption) (by omega)) hB rfl (by decide) (Nat.le_of_ble_eq_true rfl) ?_
      refine n_icmp_ge (tgt := 64) hC dX10_compares_22 (by decide) (by omega) (by omega) (fun c2 => ?_) (fun c2 => ?_)
      · refine j_aload_n hC dX10_compares_64 rfl (jrf_ref _) ?_
        refine j_iload_n hC dX10_compares_65 rfl ?_
        refine j_iload_n hC dX10_compares_66 rfl ?_
        refine r_ci2 hC kv_X10_109 dX10_compares_67 (m_X10_longOf hp (by assumption) (by omega)) hB rfl (by decide) (Nat.le_of_ble_eq_true rfl) ?_
        refine j_aload_n hC dX10_compares_70 rfl (jrf_ref _) ?_
        refine j_iload_n hC dX10_compares_71 rfl ?_
        refine j_iload_n hC dX10_compares_72 rfl ?_
        refine r_ci2 hC kv_X10_109 dX10_compares_73 (m_X10_longOf hp (by assumption) (by omega)) hB rfl (by decide) (Nat.le_of_ble_eq_true rfl) ?_
        refine j_isub hC dX10_compares_76 ?_
        exact j_iret hC9 rfl rfl dX10_compares_77 ⟨_, ⟨(by rw [he, cmp_end (by omega) (by omega) (by omega), ofInt_sub]), rfl⟩, rfl⟩
      · have h1r := hcr k (by omega)
        have h1q := hcq k (by omega)
        refine j_aload_n hC dX10_compares_25 rfl (jrf_ref _) ?_
        refine j_iload_n hC dX10_compares_26 rfl ?_
        refine j_iload_n hC dX10_compares_27 rfl ?_
        refine j_iload hC dX10_compares_28 rfl ?_
        refine r_ci3 hC kv_X10_113 dX10_compares_30 (m_X10_charOf hp (by assumption) (by omega) (by omega)) hB rfl (by decide) (Nat.le_of_ble_eq_true rfl) ?_
        refine s_ci1 hC ks_X10_117 dX10_compares_33 (m_X10_capital (c := ((sAt S (r)).2.2 (f)).getD (k) 0) (by omega)) rfl (by decide) (Nat.le_of_ble_eq_true rfl) ?_
        refine j_aload_n hC dX10_compares_36 rfl (jrf_ref _) ?_
        refine j_iload_n hC dX10_compares_37 rfl ?_
        refine j_iload_n hC dX10_compares_38 rfl ?_
        refine j_iload hC dX10_compares_39 rfl ?_
        refine r_ci3 hC kv_X10_113 dX10_compares_41 (m_X10_charOf hp (by assumption) (by omega) (by omega)) hB rfl (by decide) (Nat.le_of_ble_eq_true rfl) ?_
        refine s_ci1 hC ks_X10_117 dX10_compares_44 (m_X10_capital (c := ((sAt S (q)).2.2 (f)).getD (k) 0) (by omega)) rfl (by decide) (Nat.le_of_ble_eq_true rfl) ?_
        refine j_isub hC dX10_compares_47 ?_
        refine j_istore_5 hC dX10_compares_48 (by decide) rfl ?_
        refine j_iload hC dX10_compares_50 rfl ?_
        refine j_if_eq (tgt := 58) hC dX10_compares_52 (by decide) (fun c3 => ?_) (fun c3 => ?_)
        · refine j_iinc_4 (v := nI (k + 1)) hC dX10_compares_58 (nI_add _ _) (by decide) rfl ?_
          refine j_goto (tgt := 3) hC dX10_compares_61 (by decide) ?_
          exact j_R (rfl) (j_L (jle_s (jle_s (jle_s (jle_s (jle_s (jle_n (jle_0))))))) (ih (k + 1) (by omega) (by omega) (by omega) (by rw [he, cmp_drop (by omega) (by omega), if_pos ((ofInt_ne0 (cap_le h1r) (cap_le h1q)).mp c3)])))
        · refine j_iload hC dX10_compares_55 rfl ?_
          exact j_iret hC9 rfl rfl dX10_compares_57 ⟨_, ⟨(by rw [he, cmp_drop (by omega) (by omega), if_neg (fun e => c3 ((ofInt_ne0 (cap_le h1r) (cap_le h1q)).mpr e)), ofInt_sub]), rfl⟩, rfl⟩
theorem jv {a b : Int32} (h : a = b) : some (Value.int a) = some (Value.int b) := h ▸ rfl
theorem cmpT_le : ∀ {t u : List Nat}, (∀ c ∈ t, c ≤ 126) → (∀ c ∈ u, c ≤ 126) → -(126 + u.length : Int) ≤ cmpT t u ∧ cmpT t u ≤ (126 + t.length : Int)
  | [], u, _, _ => by simp only [cmpT, List.length_nil]; omega
  | x :: t, [], _, _ => by simp only [cmpT, List.length_nil, List.length_cons]; omega
  | x :: t, y :: u, ht, hu => by
    simp only [cmpT, List.length_cons]
    have h := cmpT_le (t := t) (u := u) (fun c hc => ht c (List.mem_cons_of_mem _ hc)) (fun c hc => hu c (List.mem_cons_of_mem _ hc))
    have hx := cap_le (ht x (List.mem_cons_self ..))
    have hy := cap_le (hu y (List.mem_cons_self ..))
    split <;> omega
theorem fld_le {S : aSet} {r f : Nat} {R : rR} (hp : rPre R S) (hr : r < (sRecs S).length) (hf : f < 5) : ∀ c ∈ (sAt S r).2.2 f, c ≤ 126 := fun c hc => (((rp_recOK hp hr).2.2 f hf).2 c hc).2
theorem ah_0 {b : Bool} {t u : List Nat} (h : t.length = 0 ∨ u.length = 0) : ahead b t u = decide (0 < t.length) := if_pos h
theorem ah_1 {t u : List Nat} (h : ¬ (t.length = 0 ∨ u.length = 0)) : ahead true t u = decide (0 < cmpT t u) := by
  rw [ahead, if_neg h, if_pos rfl]
theorem ah_2 {b : Bool} {t u : List Nat} (h : ¬ (t.length = 0 ∨ u.length = 0)) (hb : ¬ b = true) : ahead b t u = decide (cmpT t u < 0) := by
  rw [ahead, if_neg h, if_neg hb]
set_option maxHeartbeats 4000000 in
set_option maxRecDepth 100000 in
theorem m_X10_comesAhead {R : rR} {S : aSet} {r q f : Nat} {b : Bool} (hp : rPre R S) (hr : r < (sRecs S).length) (hq : q < (sRecs S).length) (hf : f < 5) : RI jX10_comesAhead 3 [.int (nI r), .int (nI q), .int (nI f), .int (jb (b = true))] R (jb (ahead b ((sAt S (r)).2.2 (f)) ((sAt S (q)).2.2 (f)) = true)) R := by
  intro G o M0 hs hBo
  refine jMet_of [some (.ref o), some (.int (nI r)), some (.int (nI q)), some (.int (nI f)), some (.int (jb (b = true))), none] (by decide) rfl (Nat.le_of_ble_eq_true rfl) rfl hs ?_
  intro C hC9 hG
  have hC := hC9.z
  have hB : jB C ≤ o := by rw [jB, hG]; exact hBo
  have hlr := rp_l12 hp hr hf
  have hlq := rp_l12 hp hq hf
  have hcm := cmpT_le (fld_le hp hr hf) (fld_le hp hq hf)
  refine j_aload_n hC dX10_comesAhead_0 rfl (jrf_ref _) ?_
  refine j_iload_n hC dX10_comesAhead_1 rfl ?_
  refine j_iload_n hC dX10_comesAhead_2 rfl ?_
  refine r_ci2 hC kv_X10_109 dX10_comesAhead_3 (m_X10_longOf hp (by assumption) (by omega)) hB rfl (by decide) (Nat.le_of_ble_eq_true rfl) ?_
  refine n_if_eq (tgt := 18) hC dX10_comesAhead_6 (by decide) (by omega) (fun c1 => ?_) (fun c1 => ?_)
  · refine j_aload_n hC dX10_comesAhead_18 rfl (jrf_ref _) ?_
    refine j_iload_n hC dX10_comesAhead_19 rfl ?_
    refine j_iload_n hC dX10_comesAhead_20 rfl ?_
    refine r_ci2 hC kv_X10_109 dX10_comesAhead_21 (m_X10_longOf hp (by assumption) (by omega)) hB rfl (by decide) (Nat.le_of_ble_eq_true rfl) ?_
    refine n_if_le (tgt := 40) hC dX10_comesAhead_24 (by decide) (by omega) (fun c2 => ?_) (fun c2 => ?_)
    · refine j_iconst (v := nI 0) hC dX10_comesAhead_40 (by decide) ?_
      exact j_iret hC9 rfl rfl dX10_comesAhead_41 ⟨_, ⟨(jv (jb_f0 (by first | (rw [ah_0 (by omega)]; simp only [decide_eq_true_eq]; omega) | (rw [ah_2 (by omega) (by assumption)]; simp only [decide_eq_true_eq]; omega) | (subst hbt; rw [ah_1 (by omega)]; simp only [decide_eq_true_eq]; omega)))), rfl⟩, rfl⟩
    · refine j_aload_n hC dX10_comesAhead_27 rfl (jrf_ref _) ?_
      refine j_iload_n hC dX10_comesAhead_28 rfl ?_
      refine j_iload_n hC dX10_comesAhead_29 rfl ?_
      refine r_ci2 hC kv_X10_109 dX10_comesAhead_30 (m_X10_longOf hp (by assumption) (by omega)) hB rfl (by decide) (Nat.le_of_ble_eq_true rfl) ?_
      refine n_if_ne (tgt := 40) hC dX10_comesAhead_33 (by decide) (by omega) (fun c3 => ?_) (fun c3 => ?_)
      · refine j_iconst (v := nI 0) hC dX10_comesAhead_40 (by decide) ?_
        exact j_iret hC9 rfl rfl dX10_comesAhead_41 ⟨_, ⟨(jv (jb_f0 (by first | (rw [ah_0 (by omega)]; simp only [decide_eq_true_eq]; omega) | (rw [ah_2 (by omega) (by assumption)]; simp only [decide_eq_true_eq]; omega) | (subst hbt; rw [ah_1 (by omega)]; simp only [decide_eq_true_eq]; omega)))), rfl⟩, rfl⟩
      · refine j_iconst (v := nI 1) hC dX10_comesAhead_36 (by decide) ?_
        refine j_goto (tgt := 41) hC dX10_comesAhead_37 (by decide) ?_
        exact j_iret hC9 rfl rfl dX10_comesAhead_41 ⟨_, ⟨(jv (jb_t1 (by first | (rw [ah_0 (by omega)]; simp only [decide_eq_true_eq]; omega) | (rw [ah_2 (by omega) (by assumption)]; simp only [decide_eq_true_eq]; omega) | (subst hbt; rw [ah_1 (by omega)]; simp only [decide_eq_true_eq]; omega)))), rfl⟩, rfl⟩
  · refine j_aload_n hC dX10_comesAhead_9 rfl (jrf_ref _) ?_
    refine j_iload_n hC dX10_comesAhead_10 rfl ?_
    refine j_iload_n hC dX10_comesAhead_11 rfl ?_
    refine r_ci2 hC kv_X10_109 dX10_comesAhead_12 (m_X10_longOf hp (by assumption) (by omega)) hB rfl (by decide) (Nat.le_of_ble_eq_true rfl) ?_
    refine n_if_ne (tgt := 42) hC dX10_comesAhead_15 (by decide) (by omega) (fun c4 => ?_) (fun c4 => ?_)
    · refine j_aload_n hC dX10_comesAhead_42 rfl (jrf_ref _) ?_
      refine j_iload_n hC dX10_comesAhead_43 rfl ?_
      refine j_iload_n hC dX10_comesAhead_44 rfl ?_
      refine j_iload_n hC dX10_comesAhead_45 rfl ?_
      refine r_ci3 hC kv_X10_120 dX10_comesAhead_46 (m_X10_compares hp (by assumption) (by assumption) (by omega)) hB rfl (by decide) (Nat.le_of_ble_eq_true rfl) ?_
      refine j_istore_5 hC dX10_comesAhead_49 (by decide) rfl ?_
      refine j_iload hC dX10_comesAhead_51 rfl ?_
      refine jb_if_eq (tgt := 69) hC dX10_comesAhead_53 (by decide) (fun c5 => ?_) (fun c5 => ?_)
      · refine j_iload hC dX10_comesAhead_69 rfl ?_
        refine z_if_ge (a := ((cmpT ((sAt S (r)).2.2 (f)) ((sAt S (q)).2.2 (f))))) (tgt := 78) hC dX10_comesAhead_71 (by decide) (by unfold zB; omega) (fun c6 => ?_) (fun c6 => ?_)
        · refine j_iconst (v := nI 0) hC dX10_comesAhead_78 (by decide) ?_
          exact j_iret hC9 rfl rfl dX10_comesAhead_79 ⟨_, ⟨(jv (jb_f0 (by first | (rw [ah_0 (by omega)]; simp only [decide_eq_true_eq]; omega) | (rw [ah_2 (by omega) (by assumption)]; simp only [decide_eq_true_eq]; omega) | (subst hbt; rw [ah_1 (by omega)]; simp only [decide_eq_true_eq]; omega)))), rfl⟩, rfl⟩
        · refine j_iconst (v := nI 1) hC dX10_comesAhead_74 (by decide) ?_
          refine j_goto (tgt := 79) hC dX10_comesAhead_75 (by decide) ?_
          exact j_iret hC9 rfl rfl dX10_comesAhead_79 ⟨_, ⟨(jv (jb_t1 (by first | (rw [ah_0 (by omega)]; simp only [decide_eq_true_eq]; omega) | (rw [ah_2 (by omega) (by assumption)]; simp only [decide_eq_true_eq]; omega) | (subst hbt; rw [ah_1 (by omega)]; simp only [decide_eq_true_eq]; omega)))), rfl⟩, rfl⟩
      · have hbt : b = true := by assumption
        refine j_iload hC dX10_comesAhead_56 rfl ?_
        refine z_if_le (a := ((cmpT ((sAt S (r)).2.2 (f)) ((sAt S (q)).2.2 (f))))) (tgt := 65) hC dX10_comesAhead_58 (by decide) (by unfold zB; omega) (fun c7 => ?_) (fun c7 => ?_)
        · refine j_iconst (v := nI 0) hC dX10_comesAhead_65 (by decide) ?_
          refine j_goto (tgt := 79) hC dX10_comesAhead_66 (by decide) ?_
          exact j_iret hC9 rfl rfl dX10_comesAhead_79 ⟨_, ⟨(jv (jb_f0 (by first | (rw [ah_0 (by omega)]; simp only [decide_eq_true_eq]; omega) | (rw [ah_2 (by omega) (by assumption)]; simp only [decide_eq_true_eq]; omega) | (subst hbt; rw [ah_1 (by omega)]; simp only [decide_eq_true_eq]; omega)))), rfl⟩, rfl⟩
        · refine j_iconst (v := nI 1) hC dX10_comesAhead_61 (by decide) ?_
          refine j_goto (tgt := 79) hC dX10_comesAhead_62 (by decide) ?_
          exact j_iret hC9 rfl rfl dX10_comesAhead_79 ⟨_, ⟨(jv (jb_t1 (by first | (rw [ah_0 (by omega)]; simp only [decide_eq_true_eq]; omega) | (rw [ah_2 (by omega) (by assumption)]; simp only [decide_eq_true_eq]; omega) | (subst hbt; rw [ah_1 (by omega)]; simp only [decide_eq_true_eq]; omega)))), rfl⟩, rfl⟩
    · refine j_aload_n hC dX10_comesAhead_18 rfl (jrf_ref _) ?_
      refine j_iload_n hC dX10_comesAhead_19 rfl ?_
      refine j_iload_n hC dX10_comesAhead_20 rfl ?_
      refine r_ci2 hC kv_X10_109 dX10_comesAhead_21 (m_X10_longOf hp (by assumption) (by omega)) hB rfl (by decide) (Nat.le_of_ble_eq_true rfl) ?_
      refine n_if_le (tgt := 40) hC dX10_comesAhead_24 (by decide) (by omega) (fun c8 => ?_) (fun c8 => ?_)
      · refine j_iconst (v := nI 0) hC dX10_comesAhead_40 (by decide) ?_
        exact j_iret hC9 rfl rfl dX10_comesAhead_41 ⟨_, ⟨(jv (jb_f0 (by first | (rw [ah_0 (by omega)]; simp only [decide_eq_true_eq]; omega) | (rw [ah_2 (by omega) (by assumption)]; simp only [decide_eq_true_eq]; omega) | (subst hbt; rw [ah_1 (by omega)]; simp only [decide_eq_true_eq]; omega)))), rfl⟩, rfl⟩
      · refine j_aload_n hC dX10_comesAhead_27 rfl (jrf_ref _) ?_
        refine j_iload_n hC dX10_comesAhead_28 rfl ?_
        refine j_iload_n hC dX10_comesAhead_29 rfl ?_
        refine r_ci2 hC kv_X10_109 dX10_comesAhead_30 (m_X10_longOf hp (by assumption) (by omega)) hB rfl (by decide) (Nat.le_of_ble_eq_true rfl) ?_
        refine n_if_ne (tgt := 40) hC dX10_comesAhead_33 (by decide) (by omega) (fun c9 => ?_) (fun c9 => ?_)
        · refine j_iconst (v := nI 0) hC dX10_comesAhead_40 (by decide) ?_
          exact j_iret hC9 rfl rfl dX10_comesAhead_41 ⟨_, ⟨(jv (jb_f0 (by first | (rw [ah_0 (by omega)]; simp only [decide_eq_true_eq]; omega) | (rw [ah_2 (by omega) (by assumption)]; simp only [decide_eq_true_eq]; omega) | (subst hbt; rw [ah_1 (by omega)]; simp only [decide_eq_true_eq]; omega)))), rfl⟩, rfl⟩
        · refine j_iconst (v := nI 1) hC dX10_comesAhead_36 (by decide) ?_
          refine j_goto (tgt := 41) hC dX10_comesAhead_37 (by decide) ?_
          exact j_iret hC9 rfl rfl dX10_comesAhead_41 ⟨_, ⟨(jv (jb_t1 (by first | (rw [ah_0 (by omega)]; simp only [decide_eq_true_eq]; omega) | (rw [ah_2 (by omega) (by assumption)]; simp only [decide_eq_true_eq]; omega) | (subst hbt; rw [ah_1 (by omega)]; simp only [decide_eq_true_eq]; omega)))), rfl⟩, rfl⟩
theorem getD_map {t : List Nat} {f : Nat → Nat} {j : Nat} (h : j < t.length) : (t.map f)[j]? = some (f (t.getD j 0)) := by
  rw [List.getElem?_map, List.getElem?_eq_getElem h, List.getD_eq_getElem?_getD, List.getElem?_eq_getElem h]
  rfl
theorem same_iff {t u : List Nat} : sameT t u = true ↔ t.length = u.length ∧ ∀ j, j < t.length → cap (t.getD j 0) = cap (u.getD j 0) := by
  rw [sameT, decide_eq_true_eq]
  constructor
  · intro h
    have hl : t.length = u.length := by
      have := congrArg List.length h
      rwa [List.length_map, List.length_map] at this
    refine ⟨hl, fun j hj => ?_⟩
    have h2 := getD_map (f := cap) hj
    rw [h, getD_map (f := cap) (show j < u.length by omega)] at h2
    exact (Option.some.inj h2).symm
  · intro h
    refine List.ext_getElem? fun j => ?_
    by_cases hj : j < t.length
    · rw [getD_map hj, getD_map (show j < u.length by omega), h.2 j hj]
    · rw [List.getElem?_eq_none (by rw [List.length_map]; omega), List.getElem?_eq_none (by rw [List.length_map]; omega)]
theorem all_step {A : Prop} {P : Nat → Prop} {k : Nat} [Decidable (P k)] (h : A ∧ ∀ j, j < k → P j) : decide (P k) = true ↔ (A ∧ ∀ j, j < k + 1 → P j) := by
  rw [decide_eq_true_eq]
  constructor
  · intro hk
    refine ⟨h.1, fun j hj => ?_⟩
    by_cases e : j = k
    · exact e ▸ hk
    · exact h.2 j (by omega)
  · intro h2
    exact h2.2 k (by omega)
theorem all_init {A : Prop} [Decidable A] {P : Nat → Prop} : decide A = true ↔ (A ∧ ∀ j, j < 0 → P j) := by
  rw [decide_eq_true_eq]
  exact ⟨fun h => ⟨h, fun j hj => absurd hj (by omega)⟩, fun h => h.1⟩
theorem same_end {t u : List Nat} {k : Nat} {b : Bool} (hb : b = true ↔ t.length = u.length ∧ ∀ j, j < k → sm (t.getD j 0) = sm (u.getD j 0)) (hk : k ≤ t.length) (h : t.length ≤ k ∨ ¬ b = true) (ht : ∀ c ∈ t, c ≤ 126) (hu : ∀ c ∈ u, c ≤ 126) : b = true ↔ sameT t u = true := by
  have g : ∀ {v : List Nat} {j : Nat}, (∀ c ∈ v, c ≤ 126) → j < v.length → v.getD j 0 ≤ 126 := fun hv hj => by
    rw [List.getD_eq_getElem?_getD, List.getElem?_eq_getElem hj]
    exact hv _ (List.getElem_mem hj)
  rw [hb, same_iff]
  constructor
  · intro h9
    obtain ⟨h1, h2⟩ := h9
    have h3 : t.length ≤ k := h.elim id (fun e => absurd (hb.mpr ⟨h1, h2⟩) e)
    exact ⟨h1, fun j hj => (sm_cap (g ht hj) (g hu (by omega))).mp (h2 j (by omega))⟩
  · intro h9
    obtain ⟨h1, h2⟩ := h9
    exact ⟨h1, fun j hj => (sm_cap (g ht (by omega)) (g hu (by omega))).mpr (h2 j (by omega))⟩
set_option maxHeartbeats 4000000 in
set_option maxRecDepth 100000 in
theorem m_X10_isSame {R : rR} {S : aSet} {r q f : Nat} (hp : rPre R S) (hr : r < (sRecs S).length) (hq : q < (sRecs S).length) (hf : f < 5) : RI jX10_isSame 2 [.int (nI r), .int (nI q), .int (nI f)] R (jb (sameT ((sAt S (r)).2.2 (f)) ((sAt S (q)).2.2 (f)) = true)) R := by
  intro G o M0 hs hBo
  refine jMet_of [some (.ref o), some (.int (nI r)), some (.int (nI q)), some (.int (nI f)), none, none] (by decide) rfl (Nat.le_of_ble_eq_true rfl) rfl hs ?_
  intro C hC9 hG
  have hC := hC9.z
  have hB : jB C ≤ o := by rw [jB, hG]; exact hBo
  have hlr := rp_l12 hp hr hf
  have hlq := rp_l12 hp hq hf
  have hcr : ∀ j, j < ((sAt S r).2.2 f).length → ((sAt S r).2.2 f).getD j 0 ≤ 126 := fun j hj => (getD_lt126 ((rp_recOK hp hr).2.2 f hf).2 hj).2
  have hcq : ∀ j, j < ((sAt S q).2.2 f).length → ((sAt S q).2.2 f).getD j 0 ≤ 126 := fun j hj => (getD_lt126 ((rp_recOK hp hq).2.2 f hf).2 hj).2
  refine j_aload_n hC dX10_isSame_0 rfl (jrf_ref _) ?_
  refine j_iload_n hC dX10_isSame_1 rfl ?_
  refine j_iload_n hC dX10_isSame_2 rfl ?_
  refine r_ci2 hC kv_X10_109 dX10_isSame_3 (m_X10_longOf hp (by assumption) (by omega)) hB rfl (by decide) (Nat.le_of_ble_eq_true rfl) ?_
  refine j_aload_n hC dX10_isSame_6 rfl (jrf_ref _) ?_
  refine j_iload_n hC dX10_isSame_7 rfl ?_
  refine j_iload_n hC dX10_isSame_8 rfl ?_
  refine r_ci2 hC kv_X10_109 dX10_isSame_9 (m_X10_longOf hp (by assumption) (by omega)) hB rfl (by decide) (Nat.le_of_ble_eq_true rfl) ?_
  suffices K : J C (rM o M0 (R)) 0 0 20 [some (.ref o), some (.int (nI (r))), some (.int (nI (q))), some (.int (nI (f))), none, none] [.int (jb (decide (((sAt S (r)).2.2 (f)).length = ((sAt S (q)).2.2 (f)).length) = true))] by
    refine n_icmp_ne (tgt := 19) hC dX10_isSame_12 (by decide) (by omega) (by omega) (fun c1 => ?_) (fun c1 => ?_)
    · refine j_iconst (v := nI 0) hC dX10_isSame_19 (by decide) ?_
      exact j_top (jb_f0 (fun h => absurd (of_decide_eq_true h) (by omega))) K
    · refine j_iconst (v := nI 1) hC dX10_isSame_15 (by decide) ?_
      refine j_goto (tgt := 20) hC dX10_isSame_16 (by decide) ?_
      exact j_top (jb_t1 (decide_eq_true (by omega))) K
  refine j_istore_4 hC dX10_isSame_20 (by decide) rfl ?_
  refine j_iconst (v := nI 0) hC dX10_isSame_22 (by decide) ?_
  refine j_istore_5 hC dX10_isSame_23 (by decide) rfl ?_
  suffices K : ∀ (n9 : Nat) (k : Nat) (b : Bool), ((sAt S (r)).2.2 (f)).length - k < n9 → (b = true ↔ (((sAt S (r)).2.2 (f)).length = ((sAt S (q)).2.2 (f)).length ∧ ∀ j, j < k → sm (((sAt S (r)).2.2 (f)).getD j 0) = sm (((sAt S (q)).2.2 (f)).getD j 0))) → (k ≤ ((sAt S (r)).2.2 (f)).length) → J C (rM o M0 (R)) 0 0 25 [some (.ref o), some (.int (nI (r))), some (.int (nI (q))), some (.int (nI (f))), some (.int (jb (b = true))), some (.int (nI (k)))] [] from j_R (rfl) (K _ (0) (decide (((sAt S (r)).2.2 (f)).length = ((sAt S (q)).2.2 (f)).length)) (Nat.lt_succ_self _) (all_init) (Nat.zero_le _))
  intro n9
  induction n9 with
  | zero => intro k b hm; omega
  | succ n9 ih =>
    intro k b hm hb hk
    refine j_iload hC dX10_isSame_25 rfl ?_
    refine j_aload_n hC dX10_isSame_27 rfl (jrf_ref _) ?_
    refine j_iload_n hC dX10_isSame_28 rfl ?_
    refine j_iload_n hC dX10_isSame_29 rfl ?_
    refine r_ci2 hC kv_X10_109 dX10_isSame_30 (m_X10_longOf hp (by assumption) (by omega)) hB rfl (by decide) (Nat.le_of_ble_eq_true rfl) ?_
    refine n_icmp_ge (tgt := 79) hC dX10_isSame_33 (by decide) (by omega) (by omega) (fun c2 => ?_) (fun c2 => ?_)
    · refine j_iload hC dX10_isSame_79 rfl ?_
      exact j_iret hC9 rfl jb_nar dX10_isSame_81 ⟨_, ⟨(jv (jb_congr (same_end hb hk (by first | exact Or.inl (by assumption) | exact Or.inr (by assumption)) (fld_le hp hr hf) (fld_le hp hq hf)))), rfl⟩, rfl⟩
    · refine j_iload hC dX10_isSame_36 rfl ?_
      refine jb_if_eq (tgt := 79) hC dX10_isSame_38 (by decide) (fun c3 => ?_) (fun c3 => ?_)
      · refine j_iload hC dX10_isSame_79 rfl ?_
        exact j_iret hC9 rfl jb_nar dX10_isSame_81 ⟨_, ⟨(jv (jb_congr (same_end hb hk (by first | exact Or.inl (by assumption) | exact Or.inr (by assumption)) (fld_le hp hr hf) (fld_le hp hq hf)))), rfl⟩, rfl⟩
      · have hb0 := hb.mp (by assumption)
        have hkq : k < ((sAt S (q)).2.2 (f)).length := by have := hb0.1; omega
        have h1r := hcr k (by omega)
        have h1q := hcq k hkq
        have h2r := sm_le h1r
        have h2q := sm_le h1q
        refine j_aload_n hC dX10_isSame_41 rfl (jrf_ref _) ?_
        refine j_iload_n hC dX10_isSame_42 rfl ?_
        refine j_iload_n hC dX10_isSame_43 rfl ?_
        refine j_iload hC dX10_isSame_44 rfl ?_
        refine r_ci3 hC kv_X10_113 dX10_isSame_46 (m_X10_charOf hp (by assumption) (by omega) (by omega)) hB rfl (by decide) (Nat.le_of_ble_eq_true rfl) ?_
        refine s_ci1 hC ks_X10_131 dX10_isSame_49 (m_X10_small (c := ((sAt S (r)).2.2 (f)).getD (k) 0) (by omega)) rfl (by decide) (Nat.le_of_ble_eq_true rfl) ?_
        refine j_aload_n hC dX10_isSame_52 rfl (jrf_ref _) ?_
        refine j_iload_n hC dX10_isSame_53 rfl ?_
        refine j_iload_n hC dX10_isSame_54 rfl ?_
        refine j_iload hC dX10_isSame_55 rfl ?_
        refine r_ci3 hC kv_X10_113 dX10_isSame_57 (m_X10_charOf hp (by assumption) (by omega) (by omega)) hB rfl (by decide) (Nat.le_of_ble_eq_true rfl) ?_
        refine s_ci1 hC ks_X10_131 dX10_isSame_60 (m_X10_small (c := ((sAt S (q)).2.2 (f)).getD (k) 0) (by omega)) rfl (by decide) (Nat.le_of_ble_eq_true rfl) ?_
        suffices K : J C (rM o M0 (R)) 0 0 71 [some (.ref o), some (.int (nI (r))), some (.int (nI (q))), some (.int (nI (f))), some (.int (jb (b = true))), some (.int (nI (k)))] [.int (jb (decide (sm (((sAt S (r)).2.2 (f)).getD (k) 0) = sm (((sAt S (q)).2.2 (f)).getD (k) 0)) = true))] by
          refine n_icmp_ne (tgt := 70) hC dX10_isSame_63 (by decide) (by omega) (by omega) (fun c4 => ?_) (fun c4 => ?_)
          · refine j_iconst (v := nI 0) hC dX10_isSame_70 (by decide) ?_
            exact j_top (jb_f0 (fun h => absurd (of_decide_eq_true h) (by omega))) K
          · refine j_iconst (v := nI 1) hC dX10_isSame_66 (by decide) ?_
            refine j_goto (tgt := 71) hC dX10_isSame_67 (by decide) ?_
            exact j_top (jb_t1 (decide_eq_true (by omega))) K
        refine j_istore_4 hC dX10_isSame_71 (by decide) rfl ?_
        refine j_iinc_5 (v := nI (k + 1)) hC dX10_isSame_73 (nI_add _ _) (by decide) rfl ?_
        refine j_goto (tgt := 25) hC dX10_isSame_76 (by decide) ?_
        exact j_R (rfl) (ih (k + 1) (decide (sm (((sAt S (r)).2.2 (f)).getD (k) 0) = sm (((sAt S (q)).2.2 (f)).getD (k) 0))) (by omega) (all_step hb0) (by omega))
