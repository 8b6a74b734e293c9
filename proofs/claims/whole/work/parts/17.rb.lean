def sm (c : Nat) : Nat := if 65 ≤ c ∧ c ≤ 90 then c + 32 else c
theorem cap_le {c : Nat} (h : c ≤ 126) : cap c ≤ 126 := by unfold cap; split <;> omega
theorem sm_le {c : Nat} (h : c ≤ 126) : sm c ≤ 126 := by unfold sm; split <;> omega
theorem sm_cap {a b : Nat} (ha : a ≤ 126) (hb : b ≤ 126) : sm a = sm b ↔ cap a = cap b := by
  unfold sm cap
  split <;> split <;> split <;> split <;> omega
set_option maxHeartbeats 4000000 in
set_option maxRecDepth 100000 in
theorem m_X10_capital {c : Nat} (hc : c ≤ 126) : SI jX10_capital 1 [.int (nI c)] (nI (cap c)) := by
  intro G M0 hs
  refine jMet_of [some (.int (nI c))] (by decide) rfl (Nat.le_of_ble_eq_true rfl) rfl hs ?_
  intro C hC9 hG
  have hC := hC9.z
  refine j_iload_n hC dX10_capital_0 rfl ?_
  refine j_bipush (v := nI 97) hC dX10_capital_1 (by decide) ?_
  refine j_bipush (v := nI 122) hC dX10_capital_3 (by decide) ?_
  refine s_ci3 hC ks_X10_88 dX10_capital_5 (m_X10_in) rfl (by decide) (Nat.le_of_ble_eq_true rfl) ?_
  refine j_top (jb_inN (by omega) (by omega) (by omega)) ?_
  refine jb_if_eq (tgt := 18) hC dX10_capital_8 (by decide) (fun c1 => ?_) (fun c1 => ?_)
  · refine j_iload_n hC dX10_capital_18 rfl ?_
    exact j_iret hC9 rfl rfl dX10_capital_19 ⟨(by rw [cap, if_neg c1]), rfl⟩
  · refine j_iload_n hC dX10_capital_11 rfl ?_
    refine j_bipush (v := nI 32) hC dX10_capital_12 (by decide) ?_
    refine n_isub hC dX10_capital_14 (by omega) ?_
    refine j_goto (tgt := 19) hC dX10_capital_15 (by decide) ?_
    exact j_iret hC9 rfl rfl dX10_capital_19 ⟨(by rw [cap, if_pos c1]), rfl⟩
set_option maxHeartbeats 4000000 in
set_option maxRecDepth 100000 in
theorem m_X10_small {c : Nat} (hc : c ≤ 126) : SI jX10_small 1 [.int (nI c)] (nI (sm c)) := by
  intro G M0 hs
  refine jMet_of [some (.int (nI c))] (by decide) rfl (Nat.le_of_ble_eq_true rfl) rfl hs ?_
  intro C hC9 hG
  have hC := hC9.z
  refine j_iload_n hC dX10_small_0 rfl ?_
  refine j_bipush (v := nI 65) hC dX10_small_1 (by decide) ?_
  refine j_bipush (v := nI 90) hC dX10_small_3 (by decide) ?_
  refine s_ci3 hC ks_X10_88 dX10_small_5 (m_X10_in) rfl (by decide) (Nat.le_of_ble_eq_true rfl) ?_
  refine j_top (jb_inN (by omega) (by omega) (by omega)) ?_
  refine jb_if_eq (tgt := 18) hC dX10_small_8 (by decide) (fun c1 => ?_) (fun c1 => ?_)
  · refine j_iload_n hC dX10_small_18 rfl ?_
    exact j_iret hC9 rfl rfl dX10_small_19 ⟨(by rw [sm, if_neg c1]), rfl⟩
  · refine j_iload_n hC dX10_small_11 rfl ?_
    refine j_bipush (v := nI 32) hC dX10_small_12 (by decide) ?_
    refine n_iadd hC dX10_small_14 ?_
    refine j_goto (tgt := 19) hC dX10_small_15 (by decide) ?_
    exact j_iret hC9 rfl rfl dX10_small_19 ⟨(by rw [sm, if_pos c1]), rfl⟩
theorem ofInt_sub {a b : Nat} : nI a - nI b = Int32.ofInt ((a : Int) - b) := by
  rw [Int32.ofInt_sub]
  rfl
theorem cmp_drop {t u : List Nat} {k : Nat} (hk : k < t.length) (hj : k < u.length) : cmpT (t.drop k) (u.drop k) = if cap (t.getD k 0) = cap (u.getD k 0) then cmpT (t.drop (k + 1)) (u.drop (k + 1)) else (cap (t.getD k 0) : Int) - cap (u.getD k 0) := by
  rw [List.drop_eq_getElem_cons hk, List.drop_eq_getElem_cons hj, cmpT]
  rw [List.getD_eq_getElem?_getD, List.getD_eq_getElem?_getD, List.getElem?_eq_getElem hk, List.getElem?_eq_getElem hj]
  rfl
theorem cmp_end {t u : List Nat} {k : Nat} (hk : k ≤ t.length) (hj : k ≤ u.length) (h : k = t.length ∨ k = u.length) : cmpT (t.drop k) (u.drop k) = (t.length : Int) - u.length := by
  rcases h with h | h
  · rw [show t.drop k = [] from List.drop_eq_nil_of_le (by omega)]
    simp only [cmpT, List.length_drop]
    omega
  · rw [show u.drop k = [] from List.drop_eq_nil_of_le (by omega)]
    by_cases e : k = t.length
    · rw [show t.drop k = [] from List.drop_eq_nil_of_le (by omega)]
      simp only [cmpT, List.length_nil]
      omega
    · rw [List.drop_eq_getElem_cons (show k < t.length by omega)]
      simp only [cmpT, List.length_drop]
      omega
theorem ofInt_ne0 {a b : Nat} (ha : a ≤ 126) (hb : b ≤ 126) : nI a - nI b = 0 ↔ a = b := by
  constructor
  · intro h
    have h2 := pk_sub_toInt (a := a) (b := b) (by omega) (by omega)
    rw [h] at h2
    have h3 : (0 : Int32).toInt = 0 := by decide
    rw [h3] at h2
    omega
  · intro h
    subst h
    exact Int32.sub_self _
set_option maxHeartbeats 4000000 in
set_option maxRecDepth 100000 in
theorem m_X10_compares {R : rR} {S : aSet} {r q f : Nat} (hp : rPre R S) (hr : r < (sRecs S).length) (hq : q < (sRecs S).length) (hf : f < 5) : RI jX10_compares 2 [.int (nI r), .int (nI q), .int (nI f)] R (Int32.ofInt (cmpT ((sAt S (r)).2.2 (f)) ((sAt S (q)).2.2 (f)))) R := by
  intro G o M0 hs hBo
  refine jMet_of [some (.ref o), some (.int (nI r)), some (.int (nI q)), some (.int (nI f)), none, none] (by decide) rfl (Nat.le_of_ble_eq_true rfl) rfl hs ?_
  intro C hC9 hG
  have hC := hC9.z
  have hB : jB C ≤ o := by rw [jB, hG]; exact hBo
  have hlr := rp_l12 hp hr hf
  have hlq := rp_l12 hp hq hf
  have hcr : ∀ j, j < ((sAt S r).2.2 f).length → ((sAt S r).2.2 f).getD j 0 ≤ 126 := fun j hj => (getD_lt126 ((rp_recOK hp hr).2.2 f hf).2 hj).2
  have hcq : ∀ j, j < ((sAt S q).2.2 f).length → ((sAt S q).2.2 f).getD j 0 ≤ 126 := fun j hj => (getD_lt126 ((rp_recOK hp hq).2.2 f hf).2 hj).2
  refine j_iconst (v := nI 0) hC dX10_compares_0 (by decide) ?_
  refine j_istore_4 hC dX10_compares_1 (by decide) rfl ?_
  suffices K : ∀ (n9 : Nat) (k : Nat), ((sAt S (r)).2.2 (f)).length - k < n9 → (k ≤ ((sAt S (r)).2.2 (f)).length) → (k ≤ ((sAt S (q)).2.2 (f)).length) → (cmpT ((sAt S (r)).2.2 (f)) ((sAt S (q)).2.2 (f)) = cmpT (((sAt S (r)).2.2 (f)).drop k) (((sAt S (q)).2.2 (f)).drop k)) → J C (rM o M0 (R)) 0 0 3 [some (.ref o), some (.int (nI (r))), some (.int (nI (q))), some (.int (nI (f))), some (.int (nI (k))), none] [] from j_R (rfl) (K _ (0) (Nat.lt_succ_self _) (Nat.zero_le _) (Nat.zero_le _) (rfl))
  intro n9
  induction n9 with
  | zero => intro k hm; omega
  | succ n9 ih =>
    intro k hm hk1 hk2 he
    refine j_iload hC dX10_compares_3 rfl ?_
    refine j_aload_n hC dX10_compares_5 rfl (jrf_ref _) ?_
    refine j_iload_n hC dX10_compares_6 rfl ?_
    refine j_iload_n hC dX10_compares_7 rfl ?_
    refine r_ci2 hC kv_X10_109 dX10_compares_8 (m_X10_longOf hp (by assumption) (by omega)) hB rfl (by decide) (Nat.le_of_ble_eq_true rfl) ?_
    refine n_icmp_ge (tgt := 64) hC dX10_compares_11 (by decide) (by omega) (by omega) (fun c1 => ?_) (fun c1 => ?_)
    · refine j_aload_n hC dX10_compares_64 rfl (jrf_ref _) ?_
      refine j_iload_n hC dX10_compares_65 rfl ?_
      refine j_iload_n hC dX10_compares_66 rfl ?_
      refine r_ci2 hC kv_X10_109 dX10_compares_67 (m_X10_longOf hp (by assumption) (by omega)) hB rfl (by decide) (Nat.le_of_ble_eq_true rfl) ?_
      refine j_aload_n hC dX10_compares_70 rfl (jrf_ref _) ?_
      refine j_iload_n hC dX10_compares_71 rfl ?_
      refine j_iload_n hC dX10_compares_72 rfl ?_
      refine r_ci2 hC kv_X10_109 dX10_compares_73 (m_X10_longOf hp (by assumption) (by omega)) hB rfl (by decide) (Nat.le_of_ble_eq_true rfl) ?_
      refine j_isub hC dX10_compares_76 ?_
      exact j_iret hC9 rfl rfl dX10_compares_77 ⟨_, ⟨(by rw [he, cmp_end (by omega) (by omega) (by omega), ofInt_sub]), rfl⟩, rfl⟩
    · refine j_iload hC dX10_compares_14 rfl ?_
      refine j_aload_n hC dX10_compares_16 rfl (jrf_ref _) ?_
      refine j_iload_n hC dX10_compares_17 rfl ?_
      refine j_iload_n hC dX10_compares_18 rfl ?_
      refine r_ci2 hC kv_X10_109 dX10_compares_19 (m_X10_longOf hp (by assumption) (by omega)) hB rfl (by decide) (Nat.le_of_ble_eq_true rfl) ?_
      refine n_icmp_ge (tgt := 64) hC dX10_compares_22 (by decide) (by omega) (by omega) (fun c2 => ?_) (fun c2 => ?_)
      · refine j_aload_n hC dX10_compares_64 rfl (jrf_ref _) ?_
        refine j_iload_n hC dX10_compares_65 rfl ?_
        refine j_iload_n hC dX10_compares_66 rfl ?_
        refine r_ci2 hC kv_X10_109 dX10_compares_67 (m_X10_longOf hp (by assumption) (by omega)) hB rfl (by decide) (Nat.le_of_ble_eq_true rfl) ?_
        refine j_aload_n hC dX10_compares_70 rfl (jrf_ref _) ?_
        refine j_iload_n hC dX10_compares_71 rfl ?_
        refine j_iload_n hC dX10_compares_72 rfl ?_
        refine r_ci2 hC kv_X10_109 dX10_compares_73 (m_X10_longOf hp (by assumption) (by omega)) hB rfl (by decide) (Nat.le_of_ble_eq_true rfl) ?_
        refine j_isub hC dX10_compares_76 ?_
        exact j_iret hC9 rfl rfl dX10_compares_77 ⟨_, ⟨(by rw [he, cmp_end (by omega) (by omega) (by omega), ofInt_sub]), rfl⟩, rfl⟩
      · have h1r := hcr k (by omega)
        have h1q := hcq k (by omega)
        refine j_aload_n hC dX10_compares_25 rfl (jrf_ref _) ?_
        refine j_iload_n hC dX10_compares_26 rfl ?_
        refine j_iload_n hC dX10_compares_27 rfl ?_
        refine j_iload hC dX10_compares_28 rfl ?_
        refine r_ci3 hC kv_X10_113 dX10_compares_30 (m_X10_charOf hp (by assumption) (by omega) (by omega)) hB rfl (by decide) (Nat.le_of_ble_eq_true rfl) ?_
        refine s_ci1 hC ks_X10_117 dX10_compares_33 (m_X10_capital (c := ((sAt S (r)).2.2 (f)).getD (k) 0) (by omega)) rfl (by decide) (Nat.le_of_ble_eq_true rfl) ?_
        refine j_aload_n hC dX10_compares_36 rfl (jrf_ref _) ?_
        refine j_iload_n hC dX10_compares_37 rfl ?_
        refine j_iload_n hC dX10_compares_38 rfl ?_
        refine j_iload hC dX10_compares_39 rfl ?_
        refine r_ci3 hC kv_X10_113 dX10_compares_41 (m_X10_charOf hp (by assumption) (by omega) (by omega)) hB rfl (by decide) (Nat.le_of_ble_eq_true rfl) ?_
        refine s_ci1 hC ks_X10_117 dX10_compares_44 (m_X10_capital (c := ((sAt S (q)).2.2 (f)).getD (k) 0) (by omega)) rfl (by decide) (Nat.le_of_ble_eq_true rfl) ?_
        refine j_isub hC dX10_compares_47 ?_
        refine j_istore_5 hC dX10_compares_48 (by decide) rfl ?_
        refine j_iload hC dX10_compares_50 rfl ?_
        refine j_if_eq (tgt := 58) hC dX10_compares_52 (by decide) (fun c3 => ?_) (fun c3 => ?_)
        · refine j_iinc_4 (v := nI (k + 1)) hC dX10_compares_58 (nI_add _ _) (by decide) rfl ?_
          refine j_goto (tgt := 3) hC dX10_compares_61 (by decide) ?_
          exact j_R (rfl) (j_L (jle_s (jle_s (jle_s (jle_s (jle_s (jle_n (jle_0))))))) (ih (k + 1) (by omega) (by omega) (by omega) (by rw [he, cmp_drop (by omega) (by omega), if_pos ((ofInt_ne0 (cap_le h1r) (cap_le h1q)).mp c3)])))
        · refine j_iload hC dX10_compares_55 rfl ?_
          exact j_iret hC9 rfl rfl dX10_compares_57 ⟨_, ⟨(by rw [he, cmp_drop (by omega) (by omega), if_neg (fun e => c3 ((ofInt_ne0 (cap_le h1r) (cap_le h1q)).mpr e)), ofInt_sub]), rfl⟩, rfl⟩
