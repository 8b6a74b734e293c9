def itA (its : List pIt) (i w : Nat) : Int32 := if w = 0 then nI (iKind (pAtI its i)) else if w = 1 then nI (iPlace (pAtI its i)) else if w = 2 then nI (iPath (pAtI its i)).length else zI (optZ (iPath (pAtI its i)).head?)
def opItem (i w : Int32) (T : aSt) : aAns :=
  if jin i (pIts (pEnd (sTmpl (tSet T)))).length = true then
    if jin w 4 = true then (0, itA (pIts (pEnd (sTmpl (tSet T)))) (toN i) (toN w), T) else (2, 0, T)
  else (1, 0, T)
section OY
variable {T : aSt} {i w : Int32} {a b : Nat} {x : Int32}
theorem itm_1 (h : ¬ jin i (pIts (pEnd (sTmpl (tSet T)))).length = true) : opItem i w T = (1, nI 0, T) := if_neg h
theorem itm_2 (h : jin i (pIts (pEnd (sTmpl (tSet T)))).length = true) (h2 : ¬ jin w 4 = true) : opItem i w T = (2, nI 0, T) := (if_pos h).trans (if_neg h2)
theorem itm_0 (ha : a < (pIts (pEnd (sTmpl (tSet T)))).length) (hl : (pIts (pEnd (sTmpl (tSet T)))).length ≤ 120) (hb : b < 4) (hx : itA (pIts (pEnd (sTmpl (tSet T)))) a b = x) : opItem (nI a) (nI b) T = (0, x, T) := by
  rw [opItem, if_pos (by rw [jin_nI (by omega)]; exact decide_eq_true ha), if_pos (by rw [jin_nI (by omega)]; exact decide_eq_true hb), toN_nI (by omega), toN_nI (by omega), hx]
end OY
set_option maxHeartbeats 4000000 in
set_option maxRecDepth 100000 in
theorem o_X10_item_ {i w : Int32} : ROp jX10_item_ 18 [.int i, .int w] (opItem i w) := by
  intro R T hi
  obtain ⟨S, P, V, b, e, u⟩ := T
  intro G o M0 hs hBo
  refine jMet_of [some (.ref o), some (.int i), some (.int w), none] (by decide) rfl (Nat.le_of_ble_eq_true rfl) rfl hs ?_
  intro C hC9 hG
  have hC := hC9.z
  have hB : jB C ≤ o := by rw [jB, hG]; exact hBo
  have hp : rPre R S := ri_pre hi
  have h20 := rp_n20 hp
  have hP8 : P.length ≤ 8 := ri_pn hi
  have hb120 : b.length ≤ 120 := ri_bn hi
  refine j_aload_n hC dX10_item__0 rfl (jrf_ref _) ?_
  refine r_call hC kv_X10_199 dX10_item__1 (m_X10_readsTemplate (R := R) (S := S) hp) rfl rfl hB rfl (by decide) (Nat.le_of_ble_eq_true rfl) ?_
  intro v9 R9 h9
  obtain ⟨rfl, hp9, hf9⟩ := h9
  have hok9 : pOK (sTmpl S) = true := (ri_ok hi).2
  have hwk : prW R9 (pEnd (sTmpl S)) := hp9.2.2.2.2 hok9
  have hwf := wf_end hok9
  have hop9 := op_end hp9.1.2.2.1 hok9
  have hwt : ∀ i, i < (pIts (pEnd (sTmpl S))).length → R9.2 21 i = nI (iTill (pAtI (pIts (pEnd (sTmpl S))) (i))) := fun i hi => hwk.2.2.2.2.2.2.2.2.2.2.2 i hi (by rw [hop9]; exact List.not_mem_nil)
  have hil9 := hwk.2.2.2.2.2.2.1
  have hcl9 := hwk.2.2.2.2.2.2.2.1
  have hat9 := hp9.2.2.2.1
  have hL129 := hp9.1.2.2.1
  have hi1 : rInv R9 (S, P, V, b, e, u) := ri_pfs (R := R) hi hf9
  have hp1 : rPre R9 S := ri_pre hi1
  have hi120 : (pIts (pEnd (sTmpl S))).length ≤ 120 := by omega
  refine j_aload_n hC dX10_item__4 rfl (jrf_ref _) ?_
  refine j_iload_n hC dX10_item__5 rfl ?_
  refine j_iconst (v := nI 0) hC dX10_item__6 (by decide) ?_
  refine j_aload_n hC dX10_item__7 rfl (jrf_ref _) ?_
  refine r_getN (x := nI ((pIts (pEnd (sTmpl S))).length)) hC kf_X10_162 dX10_item__8 rfl (hwk.2.2.1) ?_
  refine j_iconst (v := nI 1) hC dX10_item__11 (by decide) ?_
  refine j_isub hC dX10_item__12 ?_
  refine s_ci3 hC ks_X10_88 dX10_item__13 (m_X10_in) rfl (by decide) (Nat.le_of_ble_eq_true rfl) ?_
  refine j_top (jb_inL (n := (pIts (pEnd (sTmpl S))).length) (by omega)) ?_
  refine jb_if_ne (tgt := 23) hC dX10_item__16 (by decide) (fun c1 => ?_) (fun c1 => ?_)
  · refine j_iload_n hC dX10_item__23 rfl ?_
    refine j_iconst (v := nI 0) hC dX10_item__24 (by decide) ?_
    refine j_iconst (v := nI 3) hC dX10_item__25 (by decide) ?_
    refine s_ci3 hC ks_X10_88 dX10_item__26 (m_X10_in) rfl (by decide) (Nat.le_of_ble_eq_true rfl) ?_
    refine j_top (jb_in9 (by decide)) ?_
    refine jb_if_eq (tgt := 36) hC dX10_item__29 (by decide) (fun c2 => ?_) (fun c2 => ?_)
    · refine j_iconst (v := nI 2) hC dX10_item__36 (by decide) ?_
      refine r_put hC kp_X10_78 dX10_item__37 hB rfl rfl rF_set_0 ?_
      refine j_aload_n hC dX10_item__40 rfl (jrf_ref _) ?_
      refine r_getN (x := nI (2)) hC kf_X10_78 dX10_item__41 rfl (rfl) ?_
      refine n_if_eq (tgt := 49) hC dX10_item__44 (by decide) (by omega) (fun c3 => ?_) (fun c3 => ?_)
      · exact absurd c3 (by decide)
      · refine j_iconst (v := nI 0) hC dX10_item__47 (by decide) ?_
        have e9 : opItem i w (S, P, V, b, e, u) = (2, nI (0), (S, P, V, b, e, u)) := itm_2 (by assumption) (by assumption)
        exact j_iret hC9 rfl rfl dX10_item__48 ⟨(rs R9 0 (nI (2))), ro_ans e9 (rfl) (hi1), rfl⟩
    · refine j_iconst (v := nI 0) hC dX10_item__32 (by decide) ?_
      refine j_goto (tgt := 37) hC dX10_item__33 (by decide) ?_
      refine r_put hC kp_X10_78 dX10_item__37 hB rfl rfl rF_set_0 ?_
      refine j_aload_n hC dX10_item__40 rfl (jrf_ref _) ?_
      refine r_getN (x := nI (0)) hC kf_X10_78 dX10_item__41 rfl (rfl) ?_
      refine n_if_eq (tgt := 49) hC dX10_item__44 (by decide) (by omega) (fun c4 => ?_) (fun c4 => ?_)
      · obtain ⟨i9, hi9, rfl⟩ := jin_of (by assumption : jin i (pIts (pEnd (sTmpl S))).length = true) (by omega)
        obtain ⟨w9, hw9, rfl⟩ := jin_of (by assumption : jin w 4 = true) (by decide)
        refine j_aload_n hC dX10_item__49 rfl (jrf_ref _) ?_
        refine j_iload_n hC dX10_item__50 rfl ?_
        refine r_ci1 hC kv_X10_205 dX10_item__51 (m_X10_deepOf (R := (rs R9 0 (nI (0)))) (L := sTmpl S) (P := (pEnd (sTmpl S))) (j := i9) hwk hwt hwf hop9 (by omega) (by omega)) hB rfl (by decide) (Nat.le_of_ble_eq_true rfl) ?_
        refine j_istore_n3 hC dX10_item__54 (by decide) rfl ?_
        refine j_iload_n hC dX10_item__55 rfl ?_
        refine n_if_ne (tgt := 68) hC dX10_item__56 (by decide) (by omega) (fun c5 => ?_) (fun c5 => ?_)
        · refine j_iload_n hC dX10_item__68 rfl ?_
          refine j_iconst (v := nI 1) hC dX10_item__69 (by decide) ?_
          refine n_icmp_ne (tgt := 82) hC dX10_item__70 (by decide) (by omega) (by omega) (fun c6 => ?_) (fun c6 => ?_)
          · refine j_iload_n hC dX10_item__82 rfl ?_
            refine j_iconst (v := nI 2) hC dX10_item__83 (by decide) ?_
            refine n_icmp_ne (tgt := 91) hC dX10_item__84 (by decide) (by omega) (by omega) (fun c7 => ?_) (fun c7 => ?_)
            · refine j_aload_n hC dX10_item__91 rfl (jrf_ref _) ?_
              refine r_getN (x := zI (optZ (iPath (pAtI (pIts (pEnd (sTmpl S))) (i9))).head?)) hC kf_X10_202 dX10_item__92 rfl (rfl) ?_
              have e9 : opItem (nI i9) (nI w9) (S, P, V, b, e, u) = (0, zI (optZ (iPath (pAtI (pIts (pEnd (sTmpl S))) (i9))).head?), (S, P, V, b, e, u)) := itm_0 (T := (S, P, V, b, e, u)) hi9 hi120 hw9 (by first | rw [itA, if_pos (by assumption)] | rw [itA, if_neg (by assumption), if_pos (by assumption)] | rw [itA, if_neg (by assumption), if_neg (by assumption), if_pos (by assumption)] | rw [itA, if_neg (by assumption), if_neg (by assumption), if_neg (by assumption)])
              exact j_iret hC9 rfl rfl dX10_item__95 ⟨(rs (rs R9 0 (nI (0))) 26 (zI (optZ (iPath (pAtI (pIts (pEnd (sTmpl S))) (i9))).head?))), ro_ans e9 (rfl) (hi1), rfl⟩
            · refine j_iload_n hC dX10_item__87 rfl ?_
              refine j_goto (tgt := 95) hC dX10_item__88 (by decide) ?_
              have e9 : opItem (nI i9) (nI w9) (S, P, V, b, e, u) = (0, nI ((iPath (pAtI (pIts (pEnd (sTmpl S))) (i9))).length), (S, P, V, b, e, u)) := itm_0 (T := (S, P, V, b, e, u)) hi9 hi120 hw9 (by first | rw [itA, if_pos (by assumption)] | rw [itA, if_neg (by assumption), if_pos (by assumption)] | rw [itA, if_neg (by assumption), if_neg (by assumption), if_pos (by assumption)] | rw [itA, if_neg (by assumption), if_neg (by assumption), if_neg (by assumption)])
              exact j_iret hC9 rfl rfl dX10_item__95 ⟨(rs (rs R9 0 (nI (0))) 26 (zI (optZ (iPath (pAtI (pIts (pEnd (sTmpl S))) (i9))).head?))), ro_ans e9 (rfl) (hi1), rfl⟩
          · refine j_aload_n hC dX10_item__73 rfl (jrf_ref _) ?_
            refine r_get hC kf_X10_35 dX10_item__74 rfl ?_
            refine j_iload_n hC dX10_item__77 rfl ?_
            refine r_aldN (k := 18) (j := i9) (x := nI (iPlace (pAtI (pIts (pEnd (sTmpl S))) (i9)))) hC dX10_item__78 (c := 8) (n := 120) (by decide) rfl rfl (by omega) (by decide) ((hwk.2.2.2.2.1 _ (by omega)).2.1) ?_
            refine j_goto (tgt := 95) hC dX10_item__79 (by decide) ?_
            have e9 : opItem (nI i9) (nI w9) (S, P, V, b, e, u) = (0, nI (iPlace (pAtI (pIts (pEnd (sTmpl S))) (i9))), (S, P, V, b, e, u)) := itm_0 (T := (S, P, V, b, e, u)) hi9 hi120 hw9 (by first | rw [itA, if_pos (by assumption)] | rw [itA, if_neg (by assumption), if_pos (by assumption)] | rw [itA, if_neg (by assumption), if_neg (by assumption), if_pos (by assumption)] | rw [itA, if_neg (by assumption), if_neg (by assumption), if_neg (by assumption)])
            exact j_iret hC9 rfl rfl dX10_item__95 ⟨(rs (rs R9 0 (nI (0))) 26 (zI (optZ (iPath (pAtI (pIts (pEnd (sTmpl S))) (i9))).head?))), ro_ans e9 (rfl) (hi1), rfl⟩
        · refine j_aload_n hC dX10_item__59 rfl (jrf_ref _) ?_
          refine r_get hC kf_X10_32 dX10_item__60 rfl ?_
          refine j_iload_n hC dX10_item__63 rfl ?_
          refine r_aldN (k := 17) (j := i9) (x := nI (iKind (pAtI (pIts (pEnd (sTmpl S))) (i9)))) hC dX10_item__64 (c := 7) (n := 120) (by decide) rfl rfl (by omega) (by decide) ((hwk.2.2.2.2.1 _ (by omega)).1) ?_
          refine j_goto (tgt := 95) hC dX10_item__65 (by decide) ?_
          have e9 : opItem (nI i9) (nI w9) (S, P, V, b, e, u) = (0, nI (iKind (pAtI (pIts (pEnd (sTmpl S))) (i9))), (S, P, V, b, e, u)) := itm_0 (T := (S, P, V, b, e, u)) hi9 hi120 hw9 (by first | rw [itA, if_pos (by assumption)] | rw [itA, if_neg (by assumption), if_pos (by assumption)] | rw [itA, if_neg (by assumption), if_neg (by assumption), if_pos (by assumption)] | rw [itA, if_neg (by assumption), if_neg (by assumption), if_neg (by assumption)])
          exact j_iret hC9 rfl rfl dX10_item__95 ⟨(rs (rs R9 0 (nI (0))) 26 (zI (optZ (iPath (pAtI (pIts (pEnd (sTmpl S))) (i9))).head?))), ro_ans e9 (rfl) (hi1), rfl⟩
      · exact absurd c4 (by decide)
  · refine j_iconst (v := nI 1) hC dX10_item__19 (by decide) ?_
    refine j_goto (tgt := 37) hC dX10_item__20 (by decide) ?_
    refine r_put hC kp_X10_78 dX10_item__37 hB rfl rfl rF_set_0 ?_
    refine j_aload_n hC dX10_item__40 rfl (jrf_ref _) ?_
    refine r_getN (x := nI (1)) hC kf_X10_78 dX10_item__41 rfl (rfl) ?_
    refine n_if_eq (tgt := 49) hC dX10_item__44 (by decide) (by omega) (fun c8 => ?_) (fun c8 => ?_)
    · exact absurd c8 (by decide)
    · refine j_iconst (v := nI 0) hC dX10_item__47 (by decide) ?_
      have e9 : opItem i w (S, P, V, b, e, u) = (1, nI (0), (S, P, V, b, e, u)) := itm_1 (by assumption)
      exact j_iret hC9 rfl rfl dX10_item__48 ⟨(rs R9 0 (nI (1))), ro_ans e9 (rfl) (hi1), rfl⟩
