def orTo (g : Nat → Nat) : Nat → Nat
  | 0 => 0
  | n + 1 => orTo g n ||| g n
def gIt (its : List pIt) (i : Nat) : Nat := if iKind (pAtI its i) = 3 then 2 ^ iOne (pAtI its i) else 0
def gKo (cos : List pCo) (i : Nat) : Nat := if (pAtC cos i).2.1 = 0 then 2 ^ (pAtC cos i).2.2 else 0
def brN (its : List pIt) : Nat := cntTo (fun i => decide (iKind (pAtI its i) = 5)) its.length
def tmA (S : aSet) (w : Nat) : Nat :=
  if w = 0 then (pIts (pEnd (sTmpl S))).length else if w = 1 then (sTmpl S).length else if w = 2 then pDeep (pEnd (sTmpl S)) else if w = 3 then orTo (gIt (pIts (pEnd (sTmpl S)))) (pIts (pEnd (sTmpl S))).length ||| orTo (gKo (pCos (pEnd (sTmpl S)))) (pCos (pEnd (sTmpl S))).length else brN (pIts (pEnd (sTmpl S)))
def opTemplate (w : Int32) (T : aSt) : aAns := if jin w 5 = true then (0, nI (tmA (tSet T) (toN w)), T) else (1, 0, T)
theorem tpl_1 {T : aSt} {w : Int32} (h : ¬ jin w 5 = true) : opTemplate w T = (1, nI 0, T) := if_neg h
theorem tpl_0 {T : aSt} {a x : Nat} (ha : a < 5) (hx : tmA (tSet T) a = x) : opTemplate (nI a) T = (0, nI x, T) := by
  rw [opTemplate, if_pos (by rw [jin_nI (by omega)]; exact decide_eq_true ha), toN_nI (by omega), hx]
theorem gIt_3 {its : List pIt} {i : Nat} (h : iKind (pAtI its i) = 3) (h2 : iOne (pAtI its i) ≤ 4) : (nI 1 <<< (nI (iOne (pAtI its i)) &&& 31)) = nI (gIt its i) := by
  rw [sh1 _ (by omega), gIt, if_pos h]
theorem gIt_0 {its : List pIt} {i : Nat} (h : ¬ iKind (pAtI its i) = 3) : nI 0 = nI (gIt its i) := by rw [gIt, if_neg h]
theorem gKo_3 {cos : List pCo} {i : Nat} (h : (pAtC cos i).2.1 = 0) (h2 : (pAtC cos i).2.2 ≤ 4) : (nI 1 <<< (nI (pAtC cos i).2.2 &&& 31)) = nI (gKo cos i) := by
  rw [sh1 _ (by omega), gKo, if_pos h]
theorem gKo_0 {cos : List pCo} {i : Nat} (h : ¬ (pAtC cos i).2.1 = 0) : nI 0 = nI (gKo cos i) := by rw [gKo, if_neg h]
theorem or_as {a b c : Nat} : nI (a ||| b) ||| nI c = nI (a ||| (b ||| c)) := by rw [orN, Nat.or_assoc]
set_option maxHeartbeats 4000000 in
set_option maxRecDepth 100000 in
theorem o_X10_template {w : Int32} : ROp jX10_template 18 [.int w] (opTemplate w) := by
  intro R T hi
  obtain ⟨S, P, V, b, e, u⟩ := T
  intro G o M0 hs hBo
  refine jMet_of [some (.ref o), some (.int w), none, none, none] (by decide) rfl (Nat.le_of_ble_eq_true rfl) rfl hs ?_
  intro C hC9 hG
  have hC := hC9.z
  have hB : jB C ≤ o := by rw [jB, hG]; exact hBo
  have hp : rPre R S := ri_pre hi
  have h20 := rp_n20 hp
  have hP8 : P.length ≤ 8 := ri_pn hi
  have hb120 : b.length ≤ 120 := ri_bn hi
  refine j_aload_n hC dX10_template_0 rfl (jrf_ref _) ?_
  refine j_iload_n hC dX10_template_1 rfl ?_
  refine j_iconst (v := nI 0) hC dX10_template_2 (by decide) ?_
  refine j_iconst (v := nI 4) hC dX10_template_3 (by decide) ?_
  refine s_ci3 hC ks_X10_88 dX10_template_4 (m_X10_in) rfl (by decide) (Nat.le_of_ble_eq_true rfl) ?_
  refine j_top (jb_in9 (by decide)) ?_
  refine jb_if_eq (tgt := 14) hC dX10_template_7 (by decide) (fun c1 => ?_) (fun c1 => ?_)
  · refine j_iconst (v := nI 1) hC dX10_template_14 (by decide) ?_
    refine r_put hC kp_X10_78 dX10_template_15 hB rfl rfl rF_set_0 ?_
    refine j_aload_n hC dX10_template_18 rfl (jrf_ref _) ?_
    refine r_getN (x := nI (1)) hC kf_X10_78 dX10_template_19 rfl (rfl) ?_
    refine n_if_eq (tgt := 27) hC dX10_template_22 (by decide) (by omega) (fun c2 => ?_) (fun c2 => ?_)
    · exact absurd c2 (by decide)
    · refine j_iconst (v := nI 0) hC dX10_template_25 (by decide) ?_
      have e9 : opTemplate w (S, P, V, b, e, u) = (1, nI (0), (S, P, V, b, e, u)) := tpl_1 (by assumption)
      exact j_iret hC9 rfl rfl dX10_template_26 ⟨(rs R 0 (nI (1))), ro_ans e9 (rfl) (hi), rfl⟩
  · refine j_iconst (v := nI 0) hC dX10_template_10 (by decide) ?_
    refine j_goto (tgt := 15) hC dX10_template_11 (by decide) ?_
    refine r_put hC kp_X10_78 dX10_template_15 hB rfl rfl rF_set_0 ?_
    refine j_aload_n hC dX10_template_18 rfl (jrf_ref _) ?_
    refine r_getN (x := nI (0)) hC kf_X10_78 dX10_template_19 rfl (rfl) ?_
    refine n_if_eq (tgt := 27) hC dX10_template_22 (by decide) (by omega) (fun c3 => ?_) (fun c3 => ?_)
    · obtain ⟨w9, hw9, rfl⟩ := jin_of (by assumption : jin w 5 = true) (by decide)
      refine j_aload_n hC dX10_template_27 rfl (jrf_ref _) ?_
      refine r_call hC kv_X10_199 dX10_template_28 (m_X10_readsTemplate (R := (rs R 0 (nI (0)))) (S := S) hp) rfl rfl hB rfl (by decide) (Nat.le_of_ble_eq_true rfl) ?_
      intro v9 R9 h9
      obtain ⟨rfl, hp9, hf9⟩ := h9
      have hok9 : pOK (sTmpl S) = true := (ri_ok hi).2
      have hwk : prW R9 (pEnd (sTmpl S)) := hp9.2.2.2.2 hok9
      have hwf := wf_end hok9
      have hop9 := op_end hp9.1.2.2.1 hok9
      have hwt : ∀ i, i < (pIts (pEnd (sTmpl S))).length → R9.2 21 i = nI (iTill (pAtI (pIts (pEnd (sTmpl S))) (i))) := fun i hi => hwk.2.2.2.2.2.2.2.2.2.2.2 i hi (by rw [hop9]; exact List.not_mem_nil)
      have hil9 := hwk.2.2.2.2.2.2.1
      have hcl9 := hwk.2.2.2.2.2.2.2.1
      have hat9 := hp9.2.2.2.1
      have hL129 := hp9.1.2.2.1
      have hi1 : rInv R9 (S, P, V, b, e, u) := ri_pfs (R := rs R 0 (nI 0)) hi hf9
      have hp1 : rPre R9 S := ri_pre hi1
      refine j_iconst (v := nI 0) hC dX10_template_31 (by decide) ?_
      refine j_istore_n2 hC dX10_template_32 (by decide) rfl ?_
      refine j_iconst (v := nI 0) hC dX10_template_33 (by decide) ?_
      refine j_istore_n3 hC dX10_template_34 (by decide) rfl ?_
      refine j_iconst (v := nI 0) hC dX10_template_35 (by decide) ?_
      refine j_istore_4 hC dX10_template_36 (by decide) rfl ?_
      suffices K : ∀ (n9a : Nat) (i : Nat), (pIts (pEnd (sTmpl S))).length - i < n9a → (i ≤ (pIts (pEnd (sTmpl S))).length) → J C (rM o M0 (R9)) 0 0 38 [some (.ref o), some (.int (nI (w9))), some (.int (nI (orTo (gIt (pIts (pEnd (sTmpl S)))) i))), some (.int (nI (cntTo (fun i => decide (iKind (pAtI (pIts (pEnd (sTmpl S))) i) = 5)) i))), some (.int (nI (i)))] [] from j_R (rfl) (K _ (0) (Nat.lt_succ_self _) (Nat.zero_le _))
      intro n9a
      induction n9a with
      | zero => intro i hm; omega
      | succ n9a iha =>
        intro i hma hi9
        refine j_iload hC dX10_template_38 rfl ?_
        refine j_aload_n hC dX10_template_40 rfl (jrf_ref _) ?_
        refine r_getN (x := nI ((pIts (pEnd (sTmpl S))).length)) hC kf_X10_162 dX10_template_41 rfl (hwk.2.2.1) ?_
        refine n_icmp_ge (tgt := 99) hC dX10_template_44 (by decide) (by omega) (by omega) (fun c4 => ?_) (fun c4 => ?_)
        · refine j_iconst (v := nI 0) hC dX10_template_99 (by decide) ?_
          refine j_istore_4 hC dX10_template_100 (by decide) rfl ?_
          suffices K : ∀ (n9b : Nat) (k2 : Nat) (v : Nat), (pCos (pEnd (sTmpl S))).length - k2 < n9b → (v = orTo (gIt (pIts (pEnd (sTmpl S)))) i ||| orTo (gKo (pCos (pEnd (sTmpl S)))) k2) → (k2 ≤ (pCos (pEnd (sTmpl S))).length) → J C (rM o M0 (R9)) 0 0 102 [some (.ref o), some (.int (nI (w9))), some (.int (nI (v))), some (.int (nI (cntTo (fun i => decide (iKind (pAtI (pIts (pEnd (sTmpl S))) i) = 5)) i))), some (.int (nI (k2)))] [] from j_R (rfl) (K _ (0) (orTo (gIt (pIts (pEnd (sTmpl S)))) i) (Nat.lt_succ_self _) ((Nat.or_zero _).symm) (Nat.zero_le _))
          intro n9b
          induction n9b with
          | zero => intro k2 v hm; omega
          | succ n9b ihb =>
            intro k2 v hmb hv hk2
            refine j_iload hC dX10_template_102 rfl ?_
            refine j_aload_n hC dX10_template_104 rfl (jrf_ref _) ?_
            refine r_getN (x := nI ((pCos (pEnd (sTmpl S))).length)) hC kf_X10_165 dX10_template_105 rfl (hwk.2.2.2.1) ?_
            refine n_icmp_ge (tgt := 143) hC dX10_template_108 (by decide) (by omega) (by omega) (fun c5 => ?_) (fun c5 => ?_)
            · refine j_iload_n hC dX10_template_143 rfl ?_
              refine n_if_ne (tgt := 154) hC dX10_template_144 (by decide) (by omega) (fun c6 => ?_) (fun c6 => ?_)
              · refine j_iload_n hC dX10_template_154 rfl ?_
                refine j_iconst (v := nI 1) hC dX10_template_155 (by decide) ?_
                refine n_icmp_ne (tgt := 169) hC dX10_template_156 (by decide) (by omega) (by omega) (fun c7 => ?_) (fun c7 => ?_)
                · refine j_iload_n hC dX10_template_169 rfl ?_
                  refine j_iconst (v := nI 2) hC dX10_template_170 (by decide) ?_
                  refine n_icmp_ne (tgt := 181) hC dX10_template_171 (by decide) (by omega) (by omega) (fun c8 => ?_) (fun c8 => ?_)
                  · refine j_iload_n hC dX10_template_181 rfl ?_
                    refine j_iconst (v := nI 3) hC dX10_template_182 (by decide) ?_
                    refine n_icmp_ne (tgt := 190) hC dX10_template_183 (by decide) (by omega) (by omega) (fun c9 => ?_) (fun c9 => ?_)
                    · refine j_iload_n hC dX10_template_190 rfl ?_
                      have e9 : opTemplate (nI w9) (S, P, V, b, e, u) = (0, nI (cntTo (fun i => decide (iKind (pAtI (pIts (pEnd (sTmpl S))) i) = 5)) i), (S, P, V, b, e, u)) := tpl_0 hw9 (by first | rw [tmA, if_pos (by assumption)] | rw [tmA, if_neg (by assumption), if_pos (by assumption)] | rw [tmA, if_neg (by assumption), if_neg (by assumption), if_pos (by assumption)] | (rw [tmA, if_neg (by assumption), if_neg (by assumption), if_neg (by assumption), if_pos (by assumption), hv, show i = (pIts (pEnd (sTmpl S))).length by omega, show k2 = (pCos (pEnd (sTmpl S))).length by omega]) | (rw [tmA, if_neg (by assumption), if_neg (by assumption), if_neg (by assumption), if_neg (by assumption), brN, show i = (pIts (pEnd (sTmpl S))).length by omega]))
                      exact j_iret hC9 rfl rfl dX10_template_191 ⟨R9, ro_ans e9 (hf9.1 0 (by decide) (by decide) (by decide) (by decide) (by decide) (by decide) (by decide)) (hi1), rfl⟩
                    · refine j_iload_n hC dX10_template_186 rfl ?_
                      refine j_goto (tgt := 191) hC dX10_template_187 (by decide) ?_
                      have e9 : opTemplate (nI w9) (S, P, V, b, e, u) = (0, nI (v), (S, P, V, b, e, u)) := tpl_0 hw9 (by first | rw [tmA, if_pos (by assumption)] | rw [tmA, if_neg (by assumption), if_pos (by assumption)] | rw [tmA, if_neg (by assumption), if_neg (by assumption), if_pos (by assumption)] | (rw [tmA, if_neg (by assumption), if_neg (by assumption), if_neg (by assumption), if_pos (by assumption), hv, show i = (pIts (pEnd (sTmpl S))).length by omega, show k2 = (pCos (pEnd (sTmpl S))).length by omega]) | (rw [tmA, if_neg (by assumption), if_neg (by assumption), if_neg (by assumption), if_neg (by assumption), brN, show i = (pIts (pEnd (sTmpl S))).length by omega]))
                      exact j_iret hC9 rfl rfl dX10_template_191 ⟨R9, ro_ans e9 (hf9.1 0 (by decide) (by decide) (by decide) (by decide) (by decide) (by decide) (by decide)) (hi1), rfl⟩
                  · refine j_aload_n hC dX10_template_174 rfl (jrf_ref _) ?_
                    refine r_getN (x := nI (pDeep (pEnd (sTmpl S)))) hC kf_X10_181 dX10_template_175 rfl (hwk.2.1) ?_
                    refine j_goto (tgt := 191) hC dX10_template_178 (by decide) ?_
                    have e9 : opTemplate (nI w9) (S, P, V, b, e, u) = (0, nI (pDeep (pEnd (sTmpl S))), (S, P, V, b, e, u)) := tpl_0 hw9 (by first | rw [tmA, if_pos (by assumption)] | rw [tmA, if_neg (by assumption), if_pos (by assumption)] | rw [tmA, if_neg (by assumption), if_neg (by assumption), if_pos (by assumption)] | (rw [tmA, if_neg (by assumption), if_neg (by assumption), if_neg (by assumption), if_pos (by assumption), hv, show i = (pIts (pEnd (sTmpl S))).length by omega, show k2 = (pCos (pEnd (sTmpl S))).length by omega]) | (rw [tmA, if_neg (by assumption), if_neg (by assumption), if_neg (by assumption), if_neg (by assumption), brN, show i = (pIts (pEnd (sTmpl S))).length by omega]))
                    exact j_iret hC9 rfl rfl dX10_template_191 ⟨R9, ro_ans e9 (hf9.1 0 (by decide) (by decide) (by decide) (by decide) (by decide) (by decide) (by decide)) (hi1), rfl⟩
                · refine j_aload_n hC dX10_template_159 rfl (jrf_ref _) ?_
                  refine r_get hC kf_X10_9 dX10_template_160 rfl ?_
                  refine j_bipush (v := nI 18) hC dX10_template_163 (by decide) ?_
                  refine r_aldN (k := 1) (j := 18) (x := nI ((sTmpl S).length)) hC dX10_template_165 (c := 1) (n := 14790) (by decide) rfl rfl (by omega) (by decide) (rp_tmpl hp1) ?_
                  refine j_goto (tgt := 191) hC dX10_template_166 (by decide) ?_
                  have e9 : opTemplate (nI w9) (S, P, V, b, e, u) = (0, nI ((sTmpl S).length), (S, P, V, b, e, u)) := tpl_0 hw9 (by first | rw [tmA, if_pos (by assumption)] | rw [tmA, if_neg (by assumption), if_pos (by assumption)] | rw [tmA, if_neg (by assumption), if_neg (by assumption), if_pos (by assumption)] | (rw [tmA, if_neg (by assumption), if_neg (by assumption), if_neg (by assumption), if_pos (by assumption), hv, show i = (pIts (pEnd (sTmpl S))).length by omega, show k2 = (pCos (pEnd (sTmpl S))).length by omega]) | (rw [tmA, if_neg (by assumption), if_neg (by assumption), if_neg (by assumption), if_neg (by assumption), brN, show i = (pIts (pEnd (sTmpl S))).length by omega]))
                  exact j_iret hC9 rfl rfl dX10_template_191 ⟨R9, ro_ans e9 (hf9.1 0 (by decide) (by decide) (by decide) (by decide) (by decide) (by decide) (by decide)) (hi1), rfl⟩
              · refine j_aload_n hC dX10_template_147 rfl (jrf_ref _) ?_
                refine r_getN (x := nI ((pIts (pEnd (sTmpl S))).length)) hC kf_X10_162 dX10_template_148 rfl (hwk.2.2.1) ?_
                refine j_goto (tgt := 191) hC dX10_template_151 (by decide) ?_
                have e9 : opTemplate (nI w9) (S, P, V, b, e, u) = (0, nI ((pIts (pEnd (sTmpl S))).length), (S, P, V, b, e, u)) := tpl_0 hw9 (by first | rw [tmA, if_pos (by assumption)] | rw [tmA, if_neg (by assumption), if_pos (by assumption)] | rw [tmA, if_neg (by assumption), if_neg (by assumption), if_pos (by assumption)] | (rw [tmA, if_neg (by assumption), if_neg (by assumption), if_neg (by assumption), if_pos (by assumption), hv, show i = (pIts (pEnd (sTmpl S))).length by omega, show k2 = (pCos (pEnd (sTmpl S))).length by omega]) | (rw [tmA, if_neg (by assumption), if_neg (by assumption), if_neg (by assumption), if_neg (by assumption), brN, show i = (pIts (pEnd (sTmpl S))).length by omega]))
                exact j_iret hC9 rfl rfl dX10_template_191 ⟨R9, ro_ans e9 (hf9.1 0 (by decide) (by decide) (by decide) (by decide) (by decide) (by decide) (by decide)) (hi1), rfl⟩
            · have hx4 := hwf.2.2.2.2.2 k2 (by omega)
              have hx5 := hx4.1
              refine j_iload_n hC dX10_template_111 rfl ?_
              refine j_aload_n hC dX10_template_112 rfl (jrf_ref _) ?_
              refine r_get hC kf_X10_47 dX10_template_113 rfl ?_
              refine j_iload hC dX10_template_116 rfl ?_
              refine r_aldN (k := 23) (j := k2) (x := nI ((pAtC (pCos (pEnd (sTmpl S))) (k2)).2.1)) hC dX10_template_118 (c := 12) (n := 120) (by decide) rfl rfl (by omega) (by decide) ((hwk.2.2.2.2.2.1 _ (by omega)).1) ?_
              suffices K : J C (rM o M0 (R9)) 0 0 135 [some (.ref o), some (.int (nI (w9))), some (.int (nI (v))), some (.int (nI (cntTo (fun i => decide (iKind (pAtI (pIts (pEnd (sTmpl S))) i) = 5)) i))), some (.int (nI (k2)))] [.int (nI (gKo (pCos (pEnd (sTmpl S))) k2)), .int (nI (v))] by
                refine n_if_ne (tgt := 134) hC dX10_template_119 (by decide) (by omega) (fun c10 => ?_) (fun c10 => ?_)
                · refine j_iconst (v := nI 0) hC dX10_template_134 (by decide) ?_
                  exact j_top (by first | exact gKo_3 (by assumption) (hx4.2.2.1 (by assumption)) | exact gKo_0 (by assumption)) K
                · refine j_iconst (v := nI 1) hC dX10_template_122 (by decide) ?_
                  refine j_aload_n hC dX10_template_123 rfl (jrf_ref _) ?_
                  refine r_get hC kf_X10_50 dX10_template_124 rfl ?_
                  refine j_iload hC dX10_template_127 rfl ?_
                  refine r_aldN (k := 24) (j := k2) (x := nI ((pAtC (pCos (pEnd (sTmpl S))) (k2)).2.2)) hC dX10_template_129 (c := 13) (n := 120) (by decide) rfl rfl (by omega) (by decide) ((hwk.2.2.2.2.2.1 _ (by omega)).2.1) ?_
                  refine j_ishl hC dX10_template_130 ?_
                  refine j_goto (tgt := 135) hC dX10_template_131 (by decide) ?_
                  exact j_top (by first | exact gKo_3 (by assumption) (hx4.2.2.1 (by assumption)) | exact gKo_0 (by assumption)) K
              refine j_ior hC dX10_template_135 ?_
              refine j_top (orN _ _) ?_
              refine j_istore_n2 hC dX10_template_136 (by decide) rfl ?_
              refine j_iinc_4 (v := nI (k2 + 1)) hC dX10_template_137 (nI_add _ _) (by decide) rfl ?_
              refine j_goto (tgt := 102) hC dX10_template_140 (by decide) ?_
              exact j_R (rfl) (ihb (k2 + 1) (v ||| gKo (pCos (pEnd (sTmpl S))) k2) (by omega) (by rw [hv, Nat.or_assoc]; rfl) (by omega))
        · have hx1 := (hwf.1 i (by omega)).1
          have hx3 := (hwf.1 i (by omega)).2.2.2.1
          refine j_iload_n hC dX10_template_47 rfl ?_
          refine j_aload_n hC dX10_template_48 rfl (jrf_ref _) ?_
          refine r_get hC kf_X10_32 dX10_template_49 rfl ?_
          refine j_iload hC dX10_template_52 rfl ?_
          refine r_aldN (k := 17) (j := i) (x := nI (iKind (pAtI (pIts (pEnd (sTmpl S))) (i)))) hC dX10_template_54 (c := 7) (n := 120) (by decide) rfl rfl (by omega) (by decide) ((hwk.2.2.2.2.1 _ (by omega)).1) ?_
          refine j_iconst (v := nI 3) hC dX10_template_55 (by decide) ?_
          suffices K : J C (rM o M0 (R9)) 0 0 72 [some (.ref o), some (.int (nI (w9))), some (.int (nI (orTo (gIt (pIts (pEnd (sTmpl S)))) i))), some (.int (nI (cntTo (fun i => decide (iKind (pAtI (pIts (pEnd (sTmpl S))) i) = 5)) i))), some (.int (nI (i)))] [.int (nI (gIt (pIts (pEnd (sTmpl S))) i)), .int (nI (orTo (gIt (pIts (pEnd (sTmpl S)))) i))] by
            refine n_icmp_ne (tgt := 71) hC dX10_template_56 (by decide) (by omega) (by omega) (fun c11 => ?_) (fun c11 => ?_)
            · refine j_iconst (v := nI 0) hC dX10_template_71 (by decide) ?_
              exact j_top (by first | exact gIt_3 (by assumption) (hx3 (by assumption)).1 | exact gIt_0 (by assumption)) K
            · refine j_iconst (v := nI 1) hC dX10_template_59 (by decide) ?_
              refine j_aload_n hC dX10_template_60 rfl (jrf_ref _) ?_
              refine r_get hC kf_X10_38 dX10_template_61 rfl ?_
              refine j_iload hC dX10_template_64 rfl ?_
              refine r_aldN (k := 19) (j := i) (x := nI (iOne (pAtI (pIts (pEnd (sTmpl S))) (i)))) hC dX10_template_66 (c := 9) (n := 120) (by decide) rfl rfl (by omega) (by decide) ((hwk.2.2.2.2.1 _ (by omega)).2.2.1) ?_
              refine j_ishl hC dX10_template_67 ?_
              refine j_goto (tgt := 72) hC dX10_template_68 (by decide) ?_
              exact j_top (by first | exact gIt_3 (by assumption) (hx3 (by assumption)).1 | exact gIt_0 (by assumption)) K
          refine j_ior hC dX10_template_72 ?_
          refine j_top (orN _ _) ?_
          refine j_istore_n2 hC dX10_template_73 (by decide) rfl ?_
          refine j_iload_n hC dX10_template_74 rfl ?_
          refine j_aload_n hC dX10_template_75 rfl (jrf_ref _) ?_
          refine r_get hC kf_X10_32 dX10_template_76 rfl ?_
          refine j_iload hC dX10_template_79 rfl ?_
          refine r_aldN (k := 17) (j := i) (x := nI (iKind (pAtI (pIts (pEnd (sTmpl S))) (i)))) hC dX10_template_81 (c := 7) (n := 120) (by decide) rfl rfl (by omega) (by decide) ((hwk.2.2.2.2.1 _ (by omega)).1) ?_
          refine j_iconst (v := nI 5) hC dX10_template_82 (by decide) ?_
          suffices K : J C (rM o M0 (R9)) 0 0 91 [some (.ref o), some (.int (nI (w9))), some (.int (nI (orTo (gIt (pIts (pEnd (sTmpl S)))) (i + 1)))), some (.int (nI (cntTo (fun i => decide (iKind (pAtI (pIts (pEnd (sTmpl S))) i) = 5)) i))), some (.int (nI (i)))] [.int (nI (if decide (iKind (pAtI (pIts (pEnd (sTmpl S))) i) = 5) = true then 1 else 0)), .int (nI (cntTo (fun i => decide (iKind (pAtI (pIts (pEnd (sTmpl S))) i) = 5)) i))] by
            refine n_icmp_ne (tgt := 90) hC dX10_template_83 (by decide) (by omega) (by omega) (fun c12 => ?_) (fun c12 => ?_)
            · refine j_iconst (v := nI 0) hC dX10_template_90 (by decide) ?_
              exact j_top (by first | rw [if_pos (decide_eq_true (by assumption))] | rw [if_neg (by simp only [decide_eq_true_eq]; assumption)]) K
            · refine j_iconst (v := nI 1) hC dX10_template_86 (by decide) ?_
              refine j_goto (tgt := 91) hC dX10_template_87 (by decide) ?_
              exact j_top (by first | rw [if_pos (decide_eq_true (by assumption))] | rw [if_neg (by simp only [decide_eq_true_eq]; assumption)]) K
          refine n_iadd hC dX10_template_91 ?_
          refine j_istore_n3 hC dX10_template_92 (by decide) rfl ?_
          refine j_iinc_4 (v := nI (i + 1)) hC dX10_template_93 (nI_add _ _) (by decide) rfl ?_
          refine j_goto (tgt := 38) hC dX10_template_96 (by decide) ?_
          exact j_R (rfl) (iha (i + 1) (by omega) (by omega))
    · exact absurd c3 (by decide)
