set_option maxHeartbeats 4000000 in
set_option maxRecDepth 100000 in
theorem m_X10_in {v a b : Int32} : SI jX10_in 0 [.int v, .int a, .int b] (jb (a ≤ v ∧ v ≤ b)) := by
  intro G M0 hs
  refine jMet_of [some (.int v), some (.int a), some (.int b)] (by decide) rfl (Nat.le_of_ble_eq_true rfl) rfl hs ?_
  intro C hC9 hG
  have hC := hC9.z
  refine j_iload_n hC dX10_in_0 rfl ?_
  refine j_iload_n hC dX10_in_1 rfl ?_
  refine j_icmp_lt (tgt := 14) hC dX10_in_2 (by decide) (fun c1 => ?_) (fun c1 => ?_)
  · refine j_iconst (v := nI 0) hC dX10_in_14 (by decide) ?_
    exact j_iret hC9 rfl rfl dX10_in_15 ⟨(by rw [jb_f (by simp_all)]; rfl), rfl⟩
  · refine j_iload_n hC dX10_in_5 rfl ?_
    refine j_iload_n hC dX10_in_6 rfl ?_
    refine j_icmp_gt (tgt := 14) hC dX10_in_7 (by decide) (fun c2 => ?_) (fun c2 => ?_)
    · refine j_iconst (v := nI 0) hC dX10_in_14 (by decide) ?_
      exact j_iret hC9 rfl rfl dX10_in_15 ⟨(by rw [jb_f (by simp_all)]; rfl), rfl⟩
    · refine j_iconst (v := nI 1) hC dX10_in_10 (by decide) ?_
      refine j_goto (tgt := 15) hC dX10_in_11 (by decide) ?_
      exact j_iret hC9 rfl rfl dX10_in_15 ⟨(by rw [jb_t ⟨by assumption, by assumption⟩]; rfl), rfl⟩
set_option maxHeartbeats 4000000 in
set_option maxRecDepth 100000 in
theorem m_X10_groupOf {R : rR} {S : aSet} {r : Nat} (hp : rPre R S) (hr : r < (sRecs S).length) : RI jX10_groupOf 0 [.int (nI r)] R (nI (sAt S r).1) R := by
  intro G o M0 hs hBo
  refine jMet_of [some (.ref o), some (.int (nI r))] (by decide) rfl (Nat.le_of_ble_eq_true rfl) rfl hs ?_
  intro C hC9 hG
  have hC := hC9.z
  have hB : jB C ≤ o := by rw [jB, hG]; exact hBo
  have hr20 := rp_r20 hp hr
  refine j_aload_n hC dX10_groupOf_0 rfl ?_
  refine r_get hC kf_X10_9 dX10_groupOf_1 rfl ?_
  refine j_sipush (v := nI 139) hC dX10_groupOf_4 (by decide) ?_
  refine j_bipush (v := nI 67) hC dX10_groupOf_7 (by decide) ?_
  refine j_iload_n hC dX10_groupOf_9 rfl ?_
  refine n_imul hC dX10_groupOf_10 ?_
  refine n_iadd hC dX10_groupOf_11 ?_
  refine r_ald (k := 1) (j := (139) + (67 * r)) hC dX10_groupOf_12 (c := 1) (n := 14790) (by decide) rfl rfl (by omega) (by decide) ?_
  exact j_iret hC9 rfl rfl dX10_groupOf_13 ⟨_, ⟨by rw [rp_group hp hr], rfl⟩, rfl⟩
set_option maxHeartbeats 4000000 in
set_option maxRecDepth 100000 in
theorem m_X10_countOf {R : rR} {S : aSet} {r : Nat} (hp : rPre R S) (hr : r < (sRecs S).length) : RI jX10_countOf 0 [.int (nI r)] R (nI (sAt S r).2.1) R := by
  intro G o M0 hs hBo
  refine jMet_of [some (.ref o), some (.int (nI r))] (by decide) rfl (Nat.le_of_ble_eq_true rfl) rfl hs ?_
  intro C hC9 hG
  have hC := hC9.z
  have hB : jB C ≤ o := by rw [jB, hG]; exact hBo
  have hr20 := rp_r20 hp hr
  refine j_aload_n hC dX10_countOf_0 rfl ?_
  refine r_get hC kf_X10_9 dX10_countOf_1 rfl ?_
  refine j_sipush (v := nI 139) hC dX10_countOf_4 (by decide) ?_
  refine j_bipush (v := nI 67) hC dX10_countOf_7 (by decide) ?_
  refine j_iload_n hC dX10_countOf_9 rfl ?_
  refine n_imul hC dX10_countOf_10 ?_
  refine n_iadd hC dX10_countOf_11 ?_
  refine j_iconst (v := nI 1) hC dX10_countOf_12 (by decide) ?_
  refine n_iadd hC dX10_countOf_13 ?_
  refine r_ald (k := 1) (j := ((139) + (67 * r)) + (1)) hC dX10_countOf_14 (c := 1) (n := 14790) (by decide) rfl rfl (by omega) (by decide) ?_
  exact j_iret hC9 rfl rfl dX10_countOf_15 ⟨_, ⟨by rw [rp_count hp hr], rfl⟩, rfl⟩
set_option maxHeartbeats 4000000 in
set_option maxRecDepth 100000 in
theorem m_X10_longOf {R : rR} {S : aSet} {r f : Nat} (hp : rPre R S) (hr : r < (sRecs S).length) (hf : f < 5) : RI jX10_longOf 0 [.int (nI r), .int (nI f)] R (nI ((sAt S r).2.2 f).length) R := by
  intro G o M0 hs hBo
  refine jMet_of [some (.ref o), some (.int (nI r)), some (.int (nI f))] (by decide) rfl (Nat.le_of_ble_eq_true rfl) rfl hs ?_
  intro C hC9 hG
  have hC := hC9.z
  have hB : jB C ≤ o := by rw [jB, hG]; exact hBo
  have hr20 := rp_r20 hp hr
  refine j_aload_n hC dX10_longOf_0 rfl ?_
  refine r_get hC kf_X10_9 dX10_longOf_1 rfl ?_
  refine j_sipush (v := nI 139) hC dX10_longOf_4 (by decide) ?_
  refine j_bipush (v := nI 67) hC dX10_longOf_7 (by decide) ?_
  refine j_iload_n hC dX10_longOf_9 rfl ?_
  refine n_imul hC dX10_longOf_10 ?_
  refine n_iadd hC dX10_longOf_11 ?_
  refine j_iconst (v := nI 2) hC dX10_longOf_12 (by decide) ?_
  refine n_iadd hC dX10_longOf_13 ?_
  refine j_iload_n hC dX10_longOf_14 rfl ?_
  refine n_iadd hC dX10_longOf_15 ?_
  refine r_ald (k := 1) (j := (((139) + (67 * r)) + (2)) + (f)) hC dX10_longOf_16 (c := 1) (n := 14790) (by decide) rfl rfl (by omega) (by decide) ?_
  exact j_iret hC9 rfl rfl dX10_longOf_17 ⟨_, ⟨by rw [rp_long hp hr hf], rfl⟩, rfl⟩
set_option maxHeartbeats 4000000 in
set_option maxRecDepth 100000 in
theorem m_X10_charOf {R : rR} {S : aSet} {r f i : Nat} (hp : rPre R S) (hr : r < (sRecs S).length) (hf : f < 5) (hi : i < ((sAt S r).2.2 f).length) : RI jX10_charOf 0 [.int (nI r), .int (nI f), .int (nI i)] R (nI (((sAt S r).2.2 f).getD i 0)) R := by
  intro G o M0 hs hBo
  refine jMet_of [some (.ref o), some (.int (nI r)), some (.int (nI f)), some (.int (nI i))] (by decide) rfl (Nat.le_of_ble_eq_true rfl) rfl hs ?_
  intro C hC9 hG
  have hC := hC9.z
  have hB : jB C ≤ o := by rw [jB, hG]; exact hBo
  have hr20 := rp_r20 hp hr
  have hl := rp_l12 hp hr hf
  refine j_aload_n hC dX10_charOf_0 rfl ?_
  refine r_get hC kf_X10_9 dX10_charOf_1 rfl ?_
  refine j_sipush (v := nI 139) hC dX10_charOf_4 (by decide) ?_
  refine j_bipush (v := nI 67) hC dX10_charOf_7 (by decide) ?_
  refine j_iload_n hC dX10_charOf_9 rfl ?_
  refine n_imul hC dX10_charOf_10 ?_
  refine n_iadd hC dX10_charOf_11 ?_
  refine j_bipush (v := nI 7) hC dX10_charOf_12 (by decide) ?_
  refine n_iadd hC dX10_charOf_14 ?_
  refine j_bipush (v := nI 12) hC dX10_charOf_15 (by decide) ?_
  refine j_iload_n hC dX10_charOf_17 rfl ?_
  refine n_imul hC dX10_charOf_18 ?_
  refine n_iadd hC dX10_charOf_19 ?_
  refine j_iload_n hC dX10_charOf_20 rfl ?_
  refine n_iadd hC dX10_charOf_21 ?_
  refine r_ald (k := 1) (j := ((((139) + (67 * r)) + (7)) + (12 * f)) + (i)) hC dX10_charOf_22 (c := 1) (n := 14790) (by decide) rfl rfl (by omega) (by decide) ?_
  exact j_iret hC9 rfl rfl dX10_charOf_23 ⟨_, ⟨by rw [rp_char hp hr hf hi], rfl⟩, rfl⟩
