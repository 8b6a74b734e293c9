/-- whether a condition is true for a record, its exclamation mark left out -/
def cnd1 (q : aRec) (x : pCo) : Bool := if x.2.1 = 0 then decide (0 < (q.2.2 x.2.2).length) else if x.2.1 = 1 then decide (q.1 = x.2.2) else if x.2.1 = 2 then decide (q.2.1 < x.2.2) else if x.2.1 = 3 then decide (q.2.1 = x.2.2) else decide (x.2.2 < q.2.1)
def cndA (q : aRec) (x : pCo) : Bool := decide (cnd1 q x ≠ x.1)
theorem cnd_t {q : aRec} {x : pCo} (h : ¬ jb (cnd1 q x = true) = jb (x.1 = true)) : cndA q x = true := by
  refine decide_eq_true (fun e => h ?_)
  rw [e]
theorem cnd_f {q : aRec} {x : pCo} (h : jb (cnd1 q x = true) = jb (x.1 = true)) : ¬ cndA q x = true := by
  intro e
  refine of_decide_eq_true e ?_
  cases h1 : cnd1 q x <;> cases h2 : x.1 <;> rw [h1, h2] at h <;> first | rfl | exact absurd h (by decide)
section CN
variable {q : aRec} {x : pCo}
theorem cn_0 (h : x.2.1 = 0) : (cnd1 q x = true) = (0 < (q.2.2 x.2.2).length) := by rw [cnd1, if_pos h, decide_eq_true_eq]
theorem cn_1 (h : ¬ x.2.1 = 0) (h1 : x.2.1 = 1) : (cnd1 q x = true) = (q.1 = x.2.2) := by rw [cnd1, if_neg h, if_pos h1, decide_eq_true_eq]
theorem cn_2 (h : ¬ x.2.1 = 0) (h1 : ¬ x.2.1 = 1) (h2 : x.2.1 = 2) : (cnd1 q x = true) = (q.2.1 < x.2.2) := by rw [cnd1, if_neg h, if_neg h1, if_pos h2, decide_eq_true_eq]
theorem cn_3 (h : ¬ x.2.1 = 0) (h1 : ¬ x.2.1 = 1) (h2 : ¬ x.2.1 = 2) (h3 : x.2.1 = 3) : (cnd1 q x = true) = (q.2.1 = x.2.2) := by rw [cnd1, if_neg h, if_neg h1, if_neg h2, if_pos h3, decide_eq_true_eq]
theorem cn_4 (h : ¬ x.2.1 = 0) (h1 : ¬ x.2.1 = 1) (h2 : ¬ x.2.1 = 2) (h3 : ¬ x.2.1 = 3) : (cnd1 q x = true) = (x.2.2 < q.2.1) := by rw [cnd1, if_neg h, if_neg h1, if_neg h2, if_neg h3, decide_eq_true_eq]
end CN
set_option maxHeartbeats 4000000 in
set_option maxRecDepth 100000 in
theorem m_X10_holds {R : rR} {S : aSet} {P : pP} {r c : Nat} (hp : rPre R S) (hr : r < (sRecs S).length) (hwk : prW R P) (hwc : ∀ j, j < (pCos P).length → wfC (pAtC (pCos P) j)) (hc : c < (pCos P).length) (hl : (pCos P).length ≤ 120) : RI jX10_holds 1 [.int (nI r), .int (nI c)] R (jb (cndA (sAt S r) (pAtC (pCos P) c) = true)) R := by
  intro G o M0 hs hBo
  refine jMet_of [some (.ref o), some (.int (nI r)), some (.int (nI c)), none, none, none] (by decide) rfl (Nat.le_of_ble_eq_true rfl) rfl hs ?_
  intro C hC9 hG
  have hC := hC9.z
  have hB : jB C ≤ o := by rw [jB, hG]; exact hBo
  have hx := hwc c hc
  have hx1 := hx.1
  have hx2 := hx.2.1
  have hx3 := hx.2.2.1
  have hro := rp_recOK hp hr
  have hg10 := hro.1
  have hc100 := hro.2.1
  refine j_aload_n hC dX10_holds_0 rfl (jrf_ref _) ?_
  refine r_get hC kf_X10_50 dX10_holds_1 rfl ?_
  refine j_iload_n hC dX10_holds_4 rfl ?_
  refine r_aldN (k := 24) (j := c) (x := nI ((pAtC (pCos P) c).2.2)) hC dX10_holds_5 (c := 13) (n := 120) (by decide) rfl rfl (by omega) (by decide) ((hwk.2.2.2.2.2.1 c hc).2.1) ?_
  refine j_istore_n3 hC dX10_holds_6 (by decide) rfl ?_
  refine j_aload_n hC dX10_holds_7 rfl (jrf_ref _) ?_
  refine r_get hC kf_X10_47 dX10_holds_8 rfl ?_
  refine j_iload_n hC dX10_holds_11 rfl ?_
  refine r_aldN (k := 23) (j := c) (x := nI ((pAtC (pCos P) c).2.1)) hC dX10_holds_12 (c := 12) (n := 120) (by decide) rfl rfl (by omega) (by decide) ((hwk.2.2.2.2.2.1 c hc).1) ?_
  refine j_istore_4 hC dX10_holds_13 (by decide) rfl ?_
  refine j_iload hC dX10_holds_15 rfl ?_
  suffices K : J C (rM o M0 (R)) 0 0 120 [some (.ref o), some (.int (nI (r))), some (.int (nI (c))), some (.int (nI ((pAtC (pCos P) c).2.2))), some (.int (nI ((pAtC (pCos P) c).2.1))), none] [.int (jb (cnd1 (sAt S r) (pAtC (pCos P) c) = true))] by
    refine n_if_ne (tgt := 37) hC dX10_holds_17 (by decide) (by omega) (fun c1 => ?_) (fun c1 => ?_)
    · refine j_iload hC dX10_holds_37 rfl ?_
      refine j_iconst (v := nI 1) hC dX10_holds_39 (by decide) ?_
      refine n_icmp_ne (tgt := 60) hC dX10_holds_40 (by decide) (by omega) (by omega) (fun c2 => ?_) (fun c2 => ?_)
      · refine j_iload hC dX10_holds_60 rfl ?_
        refine j_iconst (v := nI 2) hC dX10_holds_62 (by decide) ?_
        refine n_icmp_ne (tgt := 83) hC dX10_holds_63 (by decide) (by omega) (by omega) (fun c3 => ?_) (fun c3 => ?_)
        · refine j_iload hC dX10_holds_83 rfl ?_
          refine j_iconst (v := nI 3) hC dX10_holds_85 (by decide) ?_
          refine n_icmp_ne (tgt := 106) hC dX10_holds_86 (by decide) (by omega) (by omega) (fun c4 => ?_) (fun c4 => ?_)
          · refine j_aload_n hC dX10_holds_106 rfl (jrf_ref _) ?_
            refine j_iload_n hC dX10_holds_107 rfl ?_
            refine r_ci1 hC kv_X10_141 dX10_holds_108 (m_X10_countOf hp (by assumption)) hB rfl (by decide) (Nat.le_of_ble_eq_true rfl) ?_
            refine j_iload_n hC dX10_holds_111 rfl ?_
            refine n_icmp_le (tgt := 119) hC dX10_holds_112 (by decide) (by omega) (by omega) (fun c5 => ?_) (fun c5 => ?_)
            · refine j_iconst (v := nI 0) hC dX10_holds_119 (by decide) ?_
              exact j_top (jb_f0 (by first | (rw [cn_0 (by assumption)]; omega) | (rw [cn_1 (by assumption) (by assumption)]; omega) | (rw [cn_2 (by assumption) (by assumption) (by assumption)]; omega) | (rw [cn_3 (by assumption) (by assumption) (by assumption) (by assumption)]; omega) | (rw [cn_4 (by assumption) (by assumption) (by assumption) (by assumption)]; omega))) K
            · refine j_iconst (v := nI 1) hC dX10_holds_115 (by decide) ?_
              refine j_goto (tgt := 120) hC dX10_holds_116 (by decide) ?_
              exact j_top (jb_t1 (by first | (rw [cn_0 (by assumption)]; omega) | (rw [cn_1 (by assumption) (by assumption)]; omega) | (rw [cn_2 (by assumption) (by assumption) (by assumption)]; omega) | (rw [cn_3 (by assumption) (by assumption) (by assumption) (by assumption)]; omega) | (rw [cn_4 (by assumption) (by assumption) (by assumption) (by assumption)]; omega))) K
          · refine j_aload_n hC dX10_holds_89 rfl (jrf_ref _) ?_
            refine j_iload_n hC dX10_holds_90 rfl ?_
            refine r_ci1 hC kv_X10_141 dX10_holds_91 (m_X10_countOf hp (by assumption)) hB rfl (by decide) (Nat.le_of_ble_eq_true rfl) ?_
            refine j_iload_n hC dX10_holds_94 rfl ?_
            refine n_icmp_ne (tgt := 102) hC dX10_holds_95 (by decide) (by omega) (by omega) (fun c6 => ?_) (fun c6 => ?_)
            · refine j_iconst (v := nI 0) hC dX10_holds_102 (by decide) ?_
              refine j_goto (tgt := 120) hC dX10_holds_103 (by decide) ?_
              exact j_top (jb_f0 (by first | (rw [cn_0 (by assumption)]; omega) | (rw [cn_1 (by assumption) (by assumption)]; omega) | (rw [cn_2 (by assumption) (by assumption) (by assumption)]; omega) | (rw [cn_3 (by assumption) (by assumption) (by assumption) (by assumption)]; omega) | (rw [cn_4 (by assumption) (by assumption) (by assumption) (by assumption)]; omega))) K
            · refine j_iconst (v := nI 1) hC dX10_holds_98 (by decide) ?_
              refine j_goto (tgt := 120) hC dX10_holds_99 (by decide) ?_
              exact j_top (jb_t1 (by first | (rw [cn_0 (by assumption)]; omega) | (rw [cn_1 (by assumption) (by assumption)]; omega) | (rw [cn_2 (by assumption) (by assumption) (by assumption)]; omega) | (rw [cn_3 (by assumption) (by assumption) (by assumption) (by assumption)]; omega) | (rw [cn_4 (by assumption) (by assumption) (by assumption) (by assumption)]; omega))) K
        · refine j_aload_n hC dX10_holds_66 rfl (jrf_ref _) ?_
          refine j_iload_n hC dX10_holds_67 rfl ?_
          refine r_ci1 hC kv_X10_141 dX10_holds_68 (m_X10_countOf hp (by assumption)) hB rfl (by decide) (Nat.le_of_ble_eq_true rfl) ?_
          refine j_iload_n hC dX10_holds_71 rfl ?_
          refine n_icmp_ge (tgt := 79) hC dX10_holds_72 (by decide) (by omega) (by omega) (fun c7 => ?_) (fun c7 => ?_)
          · refine j_iconst (v := nI 0) hC dX10_holds_79 (by decide) ?_
            refine j_goto (tgt := 120) hC dX10_holds_80 (by decide) ?_
            exact j_top (jb_f0 (by first | (rw [cn_0 (by assumption)]; omega) | (rw [cn_1 (by assumption) (by assumption)]; omega) | (rw [cn_2 (by assumption) (by assumption) (by assumption)]; omega) | (rw [cn_3 (by assumption) (by assumption) (by assumption) (by assumption)]; omega) | (rw [cn_4 (by assumption) (by assumption) (by assumption) (by assumption)]; omega))) K
          · refine j_iconst (v := nI 1) hC dX10_holds_75 (by decide) ?_
            refine j_goto (tgt := 120) hC dX10_holds_76 (by decide) ?_
            exact j_top (jb_t1 (by first | (rw [cn_0 (by assumption)]; omega) | (rw [cn_1 (by assumption) (by assumption)]; omega) | (rw [cn_2 (by assumption) (by assumption) (by assumption)]; omega) | (rw [cn_3 (by assumption) (by assumption) (by assumption) (by assumption)]; omega) | (rw [cn_4 (by assumption) (by assumption) (by assumption) (by assumption)]; omega))) K
      · refine j_aload_n hC dX10_holds_43 rfl (jrf_ref _) ?_
        refine j_iload_n hC dX10_holds_44 rfl ?_
        refine r_ci1 hC kv_X10_92 dX10_holds_45 (m_X10_groupOf hp (by assumption)) hB rfl (by decide) (Nat.le_of_ble_eq_true rfl) ?_
        refine j_iload_n hC dX10_holds_48 rfl ?_
        refine n_icmp_ne (tgt := 56) hC dX10_holds_49 (by decide) (by omega) (by omega) (fun c8 => ?_) (fun c8 => ?_)
        · refine j_iconst (v := nI 0) hC dX10_holds_56 (by decide) ?_
          refine j_goto (tgt := 120) hC dX10_holds_57 (by decide) ?_
          exact j_top (jb_f0 (by first | (rw [cn_0 (by assumption)]; omega) | (rw [cn_1 (by assumption) (by assumption)]; omega) | (rw [cn_2 (by assumption) (by assumption) (by assumption)]; omega) | (rw [cn_3 (by assumption) (by assumption) (by assumption) (by assumption)]; omega) | (rw [cn_4 (by assumption) (by assumption) (by assumption) (by assumption)]; omega))) K
        · refine j_iconst (v := nI 1) hC dX10_holds_52 (by decide) ?_
          refine j_goto (tgt := 120) hC dX10_holds_53 (by decide) ?_
          exact j_top (jb_t1 (by first | (rw [cn_0 (by assumption)]; omega) | (rw [cn_1 (by assumption) (by assumption)]; omega) | (rw [cn_2 (by assumption) (by assumption) (by assumption)]; omega) | (rw [cn_3 (by assumption) (by assumption) (by assumption) (by assumption)]; omega) | (rw [cn_4 (by assumption) (by assumption) (by assumption) (by assumption)]; omega))) K
    · have hv5 : (pAtC (pCos P) c).2.2 < 5 := by have := hx3 (by assumption); omega
      have hl12 := rp_l12 hp hr hv5
      refine j_aload_n hC dX10_holds_20 rfl (jrf_ref _) ?_
      refine j_iload_n hC dX10_holds_21 rfl ?_
      refine j_iload_n hC dX10_holds_22 rfl ?_
      refine r_ci2 hC kv_X10_109 dX10_holds_23 (m_X10_longOf hp (by assumption) (by omega)) hB rfl (by decide) (Nat.le_of_ble_eq_true rfl) ?_
      refine n_if_le (tgt := 33) hC dX10_holds_26 (by decide) (by omega) (fun c9 => ?_) (fun c9 => ?_)
      · refine j_iconst (v := nI 0) hC dX10_holds_33 (by decide) ?_
        refine j_goto (tgt := 120) hC dX10_holds_34 (by decide) ?_
        exact j_top (jb_f0 (by first | (rw [cn_0 (by assumption)]; omega) | (rw [cn_1 (by assumption) (by assumption)]; omega) | (rw [cn_2 (by assumption) (by assumption) (by assumption)]; omega) | (rw [cn_3 (by assumption) (by assumption) (by assumption) (by assumption)]; omega) | (rw [cn_4 (by assumption) (by assumption) (by assumption) (by assumption)]; omega))) K
      · refine j_iconst (v := nI 1) hC dX10_holds_29 (by decide) ?_
        refine j_goto (tgt := 120) hC dX10_holds_30 (by decide) ?_
        exact j_top (jb_t1 (by first | (rw [cn_0 (by assumption)]; omega) | (rw [cn_1 (by assumption) (by assumption)]; omega) | (rw [cn_2 (by assumption) (by assumption) (by assumption)]; omega) | (rw [cn_3 (by assumption) (by assumption) (by assumption) (by assumption)]; omega) | (rw [cn_4 (by assumption) (by assumption) (by assumption) (by assumption)]; omega))) K
  refine j_istore_5 hC dX10_holds_120 (by decide) rfl ?_
  refine j_iload hC dX10_holds_122 rfl ?_
  refine j_aload_n hC dX10_holds_124 rfl (jrf_ref _) ?_
  refine r_get hC kf_X10_53 dX10_holds_125 rfl ?_
  refine j_iload_n hC dX10_holds_128 rfl ?_
  refine r_zald (k := 25) (j := c) hC dX10_holds_129 (c := 14) (n := 120) (by decide) rfl rfl (by omega) (by decide) ?_
  refine j_top (x' := jb ((pAtC (pCos P) c).1 = true)) ((hwk.2.2.2.2.2.1 c hc).2.2) ?_
  refine j_icmp_eq (tgt := 137) hC dX10_holds_130 (by decide) (fun c10 => ?_) (fun c10 => ?_)
  · refine j_iconst (v := nI 0) hC dX10_holds_137 (by decide) ?_
    exact j_iret hC9 rfl rfl dX10_holds_138 ⟨_, ⟨(jv (jb_f0 (cnd_f (by assumption)))), rfl⟩, rfl⟩
  · refine j_iconst (v := nI 1) hC dX10_holds_133 (by decide) ?_
    refine j_goto (tgt := 138) hC dX10_holds_134 (by decide) ?_
    exact j_iret hC9 rfl rfl dX10_holds_138 ⟨_, ⟨(jv (jb_t1 (cnd_t (by assumption)))), rfl⟩, rfl⟩
