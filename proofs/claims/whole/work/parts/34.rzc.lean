/-- what reading the present template leaves alone -/
def pFs (R R' : rR) : Prop := (∀ k, k ≠ 11 → k ≠ 12 → k ≠ 13 → k ≠ 14 → k ≠ 15 → k ≠ 16 → k ≠ 22 → R'.1 k = R.1 k) ∧ (∀ k, k ≠ 10 → k ≠ 17 → k ≠ 18 → k ≠ 19 → k ≠ 20 → k ≠ 21 → k ≠ 23 → k ≠ 24 → k ≠ 25 → R'.2 k = R.2 k)
theorem ri_pfs {R R' : rR} {T : aSt} (h : rInv R T) (hf : pFs R R') : rInv R' T := by
  have f := fun k (hk : k ≠ 11 ∧ k ≠ 12 ∧ k ≠ 13 ∧ k ≠ 14 ∧ k ≠ 15 ∧ k ≠ 16 ∧ k ≠ 22) => hf.1 k hk.1 hk.2.1 hk.2.2.1 hk.2.2.2.1 hk.2.2.2.2.1 hk.2.2.2.2.2.1 hk.2.2.2.2.2.2
  have g := fun k (hk : k ≠ 10 ∧ k ≠ 17 ∧ k ≠ 18 ∧ k ≠ 19 ∧ k ≠ 20 ∧ k ≠ 21 ∧ k ≠ 23 ∧ k ≠ 24 ∧ k ≠ 25) => hf.2 k hk.1 hk.2.1 hk.2.2.1 hk.2.2.2.1 hk.2.2.2.2.1 hk.2.2.2.2.2.1 hk.2.2.2.2.2.2.1 hk.2.2.2.2.2.2.2.1 hk.2.2.2.2.2.2.2.2
  exact ri_fr h (f 2 (by decide)) (f 3 (by decide)) (f 5 (by decide)) (f 6 (by decide)) (f 30 (by decide)) (g 1 (by decide)) (g 4 (by decide)) (g 31 (by decide)) (g 32 (by decide)) (g 33 (by decide)) (g 34 (by decide)) (g 35 (by decide))
theorem pFs_of {R R' : rR} (h : pFr R R') : pFs R R' := ⟨fun k _ a b c d e f => h.1 k a b c d e f, fun k _ a b c d e f g i => h.2 k a b c d e f g i⟩
theorem pFs_trans {R R' R'' : rR} (h : pFs R R') (h2 : pFs R' R'') : pFs R R'' := ⟨fun k z a b c d e f => (h2.1 k z a b c d e f).trans (h.1 k z a b c d e f), fun k z a b c d e f g i => (h2.2 k z a b c d e f g i).trans (h.2 k z a b c d e f g i)⟩
theorem pFs_ln {R : rR} {n : Int32} {f : Nat → Int32} : pFs R (rA (rs R 11 n) 10 f) := ⟨fun k h _ _ _ _ _ _ => if_neg h, fun k h _ _ _ _ _ _ _ _ => if_neg h⟩
/-- the line, as far as k -/
def lnA (D : Nat → Int32) (t : List Nat) (k : Nat) : Nat → Int32 := fun j => if j < k then nI (t.getD j 0) else D j
theorem lnA_0 {D : Nat → Int32} {t : List Nat} : lnA D t 0 = D := by
  funext j
  simp only [lnA]
  rw [if_neg (by omega)]
theorem lnA_s {D : Nat → Int32} {t : List Nat} {k : Nat} : upd (lnA D t k) k (nI (t.getD k 0)) = lnA D t (k + 1) := by
  funext j
  simp only [lnA, upd]
  by_cases h : j = k
  · subst h
    rw [if_pos rfl, if_pos (by omega)]
  · rw [if_neg h]
    by_cases h2 : j < k
    · rw [if_pos h2, if_pos (by omega)]
    · rw [if_neg h2, if_neg (by omega)]
theorem ln_of {R : rR} {D : Nat → Int32} {t : List Nat} (h11 : R.1 11 = nI t.length) (h10 : R.2 10 = lnA D t t.length) (hl : t.length ≤ 120) (hc : ∀ c ∈ t, 32 ≤ c ∧ c ≤ 126) : lnR R t := by
  refine ⟨h11, fun i hi => ?_, hl, hc⟩
  rw [h10]
  exact if_pos hi
set_option maxHeartbeats 4000000 in
set_option maxRecDepth 100000 in
theorem m_X10_readsTemplate {R : rR} {S : aSet} (hp : rPre R S) : RMet jX10_readsTemplate 17 [] R (fun v R' => v = none ∧ prR R' (sTmpl S) (pEnd (sTmpl S)) ∧ pFs R R') := by
  intro G o M0 hs hBo
  refine jMet_of [some (.ref o), none] (by decide) rfl (Nat.le_of_ble_eq_true rfl) rfl hs ?_
  intro C hC9 hG
  have hC := hC9.z
  have hB : jB C ≤ o := by rw [jB, hG]; exact hBo
  have hto := rp_tmplOK hp
  have ht120 := hto.1
  refine j_aload_n hC dX10_readsTemplate_0 rfl (jrf_ref _) ?_
  refine j_aload_n hC dX10_readsTemplate_1 rfl (jrf_ref _) ?_
  refine r_get hC kf_X10_9 dX10_readsTemplate_2 rfl ?_
  refine j_bipush (v := nI 18) hC dX10_readsTemplate_5 (by decide) ?_
  refine r_aldN (k := 1) (j := 18) (x := nI ((sTmpl S).length)) hC dX10_readsTemplate_7 (c := 1) (n := 14790) (by decide) rfl rfl (by omega) (by decide) (rp_tmpl hp) ?_
  refine r_put hC kp_X10_150 dX10_readsTemplate_8 hB rfl rfl rF_set_11 ?_
  refine j_iconst (v := nI 0) hC dX10_readsTemplate_11 (by decide) ?_
  refine j_istore_n1 hC dX10_readsTemplate_12 (by decide) rfl ?_
  suffices K : ∀ (n9 : Nat) (k : Nat), (sTmpl S).length - k < n9 → (k ≤ (sTmpl S).length) → J C (rM o M0 (rA (rs R 11 (nI (sTmpl S).length)) 10 (lnA (R.2 10) (sTmpl S) k))) 0 0 13 [some (.ref o), some (.int (nI (k)))] [] from j_R (by rw [lnA_0]; exact (rA_self (R := rs R 11 (nI (sTmpl S).length))).symm) (K _ (0) (Nat.lt_succ_self _) (Nat.zero_le _))
  intro n9
  induction n9 with
  | zero => intro k hm; omega
  | succ n9 ih =>
    intro k hm hk
    refine j_iload_n hC dX10_readsTemplate_13 rfl ?_
    refine j_aload_n hC dX10_readsTemplate_14 rfl (jrf_ref _) ?_
    refine r_getN (x := nI ((sTmpl S).length)) hC kf_X10_150 dX10_readsTemplate_15 rfl (rfl) ?_
    refine n_icmp_ge (tgt := 42) hC dX10_readsTemplate_18 (by decide) (by omega) (by omega) (fun c1 => ?_) (fun c1 => ?_)
    · have hln : lnR (rA (rs R 11 (nI (sTmpl S).length)) 10 (lnA (R.2 10) (sTmpl S) k)) (sTmpl S) := ln_of rfl (by rw [show k = (sTmpl S).length by omega]; exact rA_at) hto.1 hto.2
      refine j_aload_n hC dX10_readsTemplate_42 rfl (jrf_ref _) ?_
      refine r_call hC kv_X10_196 dX10_readsTemplate_43 (m_X10_reads (L := sTmpl S) (by exact hln)) rfl rfl hB rfl (by omega) (Nat.le_of_ble_eq_true rfl) ?_
      intro v9 R9 h9
      obtain ⟨rfl, hp9, hf9⟩ := h9
      exact j_vret hC9 rfl dX10_readsTemplate_46 ⟨R9, ⟨rfl, hp9, pFs_trans pFs_ln (pFs_of hf9)⟩, rfl⟩
    · refine j_aload_n hC dX10_readsTemplate_21 rfl (jrf_ref _) ?_
      refine r_get hC kf_X10_29 dX10_readsTemplate_22 rfl ?_
      refine j_iload_n hC dX10_readsTemplate_25 rfl ?_
      refine j_aload_n hC dX10_readsTemplate_26 rfl (jrf_ref _) ?_
      refine r_get hC kf_X10_9 dX10_readsTemplate_27 rfl ?_
      refine j_bipush (v := nI 19) hC dX10_readsTemplate_30 (by decide) ?_
      refine j_iload_n hC dX10_readsTemplate_32 rfl ?_
      refine n_iadd hC dX10_readsTemplate_33 ?_
      refine r_aldN (k := 1) (j := 19 + k) (x := nI ((sTmpl S).getD k 0)) hC dX10_readsTemplate_34 (c := 1) (n := 14790) (by decide) rfl rfl (by omega) (by decide) (rp_tmplC hp (by omega)) ?_
      refine r_ast (k := 10) (j := k) hC dX10_readsTemplate_35 (c := 6) (n := 120) (by decide) (fun _ => rfl) (rO_k10) hB rfl (by omega) (by decide) ?_
      refine j_iinc_1 (v := nI (k + 1)) hC dX10_readsTemplate_36 (nI_add _ _) (by decide) rfl ?_
      refine j_goto (tgt := 13) hC dX10_readsTemplate_39 (by decide) ?_
      exact j_R (rA_ra.trans (rA_eq lnA_s)) (ih (k + 1) (by omega) (by omega))
def opSetTmpl (T : aSt) : aAns :=
  if pOK (tBuf T) = true then (0, nI (pIts (pEnd (tBuf T))).length, chg (setBuf T []) (withTmpl (tSet T) (tBuf T)))
  else (1, 0, setErr (setBuf T []) (pσ (pEnd (tBuf T))).1)
theorem tmp_row {A : Nat → Int32} {S : aSet} {t : List Nat} (hS : setOK S) (h : rowRep A 0 S) (hl : t.length ≤ 120) : rowRep (fiA A 18 19 t 120) 0 (withTmpl S t) := by
  have ht := hS.2.2.2.2.2.1.1
  obtain ⟨h0, h1, h2, h3, h4, h5, h6, h7, h8, h9⟩ := h
  have e : ∀ j, j < 18 ∨ 139 ≤ j → fiA A 18 19 t 120 j = A j := fun j hj => fiA_out (by omega) (by omega)
  exact ⟨(e _ (by decide)).trans h0, (e _ (by decide)).trans h1, (e _ (by decide)).trans h2, (e _ (by decide)).trans h3, (e _ (by decide)).trans h4, (e _ (by decide)).trans h5, fun i hi => (e _ (by have : i < (sHome S).length := hi; omega)).trans (h6 i hi), fiA_len (by decide), fun i hi => by rw [Nat.zero_add]; exact fiA_in (by have : i < t.length := hi; omega), fun r hr => recRep_mv (setOK_rec hS hr) (fun j hj => e _ (by omega)) (h9 r hr)⟩
theorem setG_tmp {S : aSet} {t : List Nat} (hS : setG S) (h : t.length ≤ 120) (hc : ∀ c ∈ t, 32 ≤ c ∧ c ≤ 126) (hk : pOK t = true) : setG (withTmpl S t) := by
  obtain ⟨⟨a1, a2, a3, a4, a5, a6, a7, a8⟩, a9⟩ := hS
  exact ⟨⟨a1, a2, a3, a4, a5, a6, ⟨h, hc⟩, a8⟩, hk⟩
theorem ri_pfr {R R' : rR} {T : aSt} (h : rInv R T) (hf : pFr R R') : rInv R' T := ri_pfs h (pFs_of hf)
theorem pF_eq {σ : pS} (h : 0 ≤ pF σ) : zI (pF σ) = zI (optZ (some σ.1)) := by
  rw [pF, if_neg (by rw [pF_nn h]; decide)]
  rfl
section OT
variable {T : aSt}
theorem stm_1 (h : 0 ≤ pF (pσ (pEnd (tBuf T)))) : opSetTmpl T = (1, nI 0, setErr (setBuf T []) (pσ (pEnd (tBuf T))).1) := if_neg (by rw [pOK, pF_nn h]; decide)
theorem stm_0 (h : pF (pσ (pEnd (tBuf T))) < 0) : opSetTmpl T = (0, nI (pIts (pEnd (tBuf T))).length, chg (setBuf T []) (withTmpl (tSet T) (tBuf T))) := if_pos (pF_neg h)
end OT
set_option maxHeartbeats 4000000 in
set_option maxRecDepth 100000 in
theorem o_X10_setTemplate  : ROp jX10_setTemplate 18 [] (opSetTmpl) := by
  intro R T hi
  obtain ⟨S, P, V, b, e, u⟩ := T
  intro G o M0 hs hBo
  refine jMet_of [some (.ref o), none] (by decide) rfl (Nat.le_of_ble_eq_true rfl) rfl hs ?_
  intro C hC9 hG
  have hC := hC9.z
  have hB : jB C ≤ o := by rw [jB, hG]; exact hBo
  have hp : rPre R S := ri_pre hi
  have h20 := rp_n20 hp
  have hP8 : P.length ≤ 8 := ri_pn hi
  have hb120 : b.length ≤ 120 := ri_bn hi
  refine j_aload_n hC dX10_setTemplate_0 rfl (jrf_ref _) ?_
  refine j_iconst (v := nI 0) hC dX10_setTemplate_1 (by decide) ?_
  refine r_put hC kp_X10_78 dX10_setTemplate_2 hB rfl rfl rF_set_0 ?_
  refine j_aload_n hC dX10_setTemplate_5 rfl (jrf_ref _) ?_
  refine j_aload_n hC dX10_setTemplate_6 rfl (jrf_ref _) ?_
  refine r_getN (x := nI (b.length)) hC kf_X10_96 dX10_setTemplate_7 rfl (ri_bl hi) ?_
  refine r_put hC kp_X10_150 dX10_setTemplate_10 hB rfl rfl rF_set_11 ?_
  refine j_iconst (v := nI 0) hC dX10_setTemplate_13 (by decide) ?_
  refine j_istore_n1 hC dX10_setTemplate_14 (by decide) rfl ?_
  suffices K : ∀ (n9 : Nat) (k : Nat), b.length - k < n9 → (k ≤ b.length) → J C (rM o M0 (rA (rs (rs R 0 (nI 0)) 11 (nI b.length)) 10 (lnA (R.2 10) b k))) 0 0 15 [some (.ref o), some (.int (nI (k)))] [] from j_R (by rw [lnA_0]; exact (rA_self (R := rs (rs R 0 (nI 0)) 11 (nI b.length))).symm) (K _ (0) (Nat.lt_succ_self _) (Nat.zero_le _))
  intro n9
  induction n9 with
  | zero => intro k hm; omega
  | succ n9 ih =>
    intro k hm hk
    refine j_iload_n hC dX10_setTemplate_15 rfl ?_
    refine j_aload_n hC dX10_setTemplate_16 rfl (jrf_ref _) ?_
    refine r_getN (x := nI (b.length)) hC kf_X10_96 dX10_setTemplate_17 rfl (ri_bl hi) ?_
    refine n_icmp_ge (tgt := 41) hC dX10_setTemplate_20 (by decide) (by omega) (by omega) (fun c1 => ?_) (fun c1 => ?_)
    · refine j_aload_n hC dX10_setTemplate_41 rfl (jrf_ref _) ?_
      refine j_iconst (v := nI 0) hC dX10_setTemplate_42 (by decide) ?_
      refine r_put hC kp_X10_96 dX10_setTemplate_43 hB rfl rfl rF_set_5 ?_
      have hln : lnR (rs (rA (rs (rs R 0 (nI 0)) 11 (nI b.length)) 10 (lnA (R.2 10) b k)) 5 (nI (0))) b := ln_of rfl (by rw [show k = b.length by omega]; exact rA_at (R := rs (rs R 0 (nI 0)) 11 (nI b.length)) (k := 10) (f := lnA (R.2 10) b b.length)) hb120 (ri_bo hi)
      have hi0 : rInv (rs (rA (rs (rs R 0 (nI 0)) 11 (nI b.length)) 10 (lnA (R.2 10) b k)) 5 (nI (0))) (S, P, V, [], e, u) := ri_buf (T := (S, P, V, b, e, u)) (R := rA (rs (rs R 0 (nI 0)) 11 (nI b.length)) 10 (lnA (R.2 10) b k)) (ri_free (R := rs (rs R 0 (nI 0)) 11 (nI b.length)) hi (by decide)) rfl
      refine j_aload_n hC dX10_setTemplate_46 rfl (jrf_ref _) ?_
      refine r_call hC kv_X10_196 dX10_setTemplate_47 (m_X10_reads (L := b) (by exact hln)) rfl rfl hB rfl (by decide) (Nat.le_of_ble_eq_true rfl) ?_
      intro v9 R9 h9
      obtain ⟨rfl, hp9, hf9⟩ := h9
      have hi1 : rInv R9 (S, P, V, [], e, u) := ri_pfr hi0 hf9
      have hpf := pF_b (σ := pσ (pEnd b))
      have hpl := hp9.2.2.2.1
      refine j_aload_n hC dX10_setTemplate_50 rfl (jrf_ref _) ?_
      refine r_getN (x := zI (pF (pσ (pEnd b)))) hC kf_X10_153 dX10_setTemplate_51 rfl (hp9.2.2.1) ?_
      refine z_if_lt (a := (pF (pσ (pEnd b)))) (tgt := 72) hC dX10_setTemplate_54 (by decide) (by unfold zB; omega) (fun c2 => ?_) (fun c2 => ?_)
      · have hok9 : (pσ (pEnd b)).2 = true := pF_neg (by assumption)
        have hit9 : (pIts (pEnd b)).length ≤ (pσ (pEnd b)).1 := (hp9.2.2.2.2 hok9).2.2.2.2.2.2.1
        refine j_aload_n hC dX10_setTemplate_72 rfl (jrf_ref _) ?_
        refine r_cv0 hC kv_X10_99 dX10_setTemplate_73 (m_X10_keeps (R := R9) (n := P.length) hP8 (ri_ch hi1)) hB rfl (by decide) (Nat.le_of_ble_eq_true rfl) ?_
        have hi2 := ri_keep (T := (S, P, V, [], e, u)) (R := R9) hi1
        have hp2 : rPre (keepR R9 P.length) S := ri_pre hi2
        refine j_aload_n hC dX10_setTemplate_76 rfl (jrf_ref _) ?_
        refine r_get hC kf_X10_9 dX10_setTemplate_77 rfl ?_
        refine j_bipush (v := nI 18) hC dX10_setTemplate_80 (by decide) ?_
        refine j_aload_n hC dX10_setTemplate_82 rfl (jrf_ref _) ?_
        refine r_getN (x := nI (b.length)) hC kf_X10_150 dX10_setTemplate_83 rfl (hp9.1.1) ?_
        refine r_ast (k := 1) (j := 18) hC dX10_setTemplate_86 (c := 1) (n := 14790) (by decide) (fun _ => rfl) (rO_k1) hB rfl (by omega) (by decide) ?_
        refine j_iconst (v := nI 0) hC dX10_setTemplate_87 (by decide) ?_
        refine j_istore_n1 hC dX10_setTemplate_88 (by decide) rfl ?_
        suffices K : ∀ (n9b : Nat) (k2 : Nat), 120 - k2 < n9b → (k2 ≤ 120) → J C (rM o M0 (rA (keepR R9 P.length) 1 (fiA ((keepR R9 P.length).2 1) 18 19 b k2))) 0 0 89 [some (.ref o), some (.int (nI (k2)))] [] from j_R (by rw [fiA_0]; exact ra_rA) (K _ (0) (Nat.lt_succ_self _) (by omega))
        intro n9b
        induction n9b with
        | zero => intro k2 hm; omega
        | succ n9b ihb =>
          intro k2 hmb hk2
          refine j_iload_n hC dX10_setTemplate_89 rfl ?_
          refine j_bipush (v := nI 120) hC dX10_setTemplate_90 (by decide) ?_
          refine n_icmp_ge (tgt := 128) hC dX10_setTemplate_92 (by decide) (by omega) (by omega) (fun c3 => ?_) (fun c3 => ?_)
          · refine j_aload_n hC dX10_setTemplate_128 rfl (jrf_ref _) ?_
            refine r_getN (x := nI ((pIts (pEnd b)).length)) hC kf_X10_162 dX10_setTemplate_129 rfl ((hp9.2.2.2.2 hok9).2.2.1) ?_
            have e9 : opSetTmpl (S, P, V, b, e, u) = (0, nI ((pIts (pEnd b)).length), chg (S, P, V, [], e, u) (withTmpl S b)) := stm_0 (by assumption)
            exact j_iret hC9 rfl rfl dX10_setTemplate_132 ⟨(rA (keepR R9 P.length) 1 (fiA ((keepR R9 P.length).2 1) 18 19 b k2)), ro_ans e9 (hf9.1 0 (by decide) (by decide) (by decide) (by decide) (by decide) (by decide)) (by rw [show k2 = 120 by omega]; exact ri_set hi2 (fun j hj => fiA_out (by omega) (by omega)) (tmp_row (ri_ok hi2).1 (ri_row hi2) hb120) (setG_tmp (ri_ok hi2) hb120 (ri_bo hi) (pF_neg (by assumption)))), rfl⟩
          · refine j_aload_n hC dX10_setTemplate_95 rfl (jrf_ref _) ?_
            refine r_get hC kf_X10_9 dX10_setTemplate_96 rfl ?_
            refine j_bipush (v := nI 19) hC dX10_setTemplate_99 (by decide) ?_
            refine j_iload_n hC dX10_setTemplate_101 rfl ?_
            refine n_iadd hC dX10_setTemplate_102 ?_
            refine j_iload_n hC dX10_setTemplate_103 rfl ?_
            refine j_aload_n hC dX10_setTemplate_104 rfl (jrf_ref _) ?_
            suffices K : J C (rM o M0 ((rA (keepR R9 P.length) 1 (fiA ((keepR R9 P.length).2 1) 18 19 b k2)))) 0 0 121 [some (.ref o), some (.int (nI (k2)))] [.int (nI (b.getD k2 0)), .int (nI (19 + k2)), .ref (o + 1)] by
              refine r_getN (x := nI (b.length)) hC kf_X10_150 dX10_setTemplate_105 rfl (hp9.1.1) ?_
              refine n_icmp_ge (tgt := 120) hC dX10_setTemplate_108 (by decide) (by omega) (by omega) (fun c4 => ?_) (fun c4 => ?_)
              · refine j_iconst (v := nI 0) hC dX10_setTemplate_120 (by decide) ?_
                exact j_top (by first | rfl | rw [getD_out (by omega)]) K
              · refine j_aload_n hC dX10_setTemplate_111 rfl (jrf_ref _) ?_
                refine r_get hC kf_X10_29 dX10_setTemplate_112 rfl ?_
                refine j_iload_n hC dX10_setTemplate_115 rfl ?_
                refine r_aldN (k := 10) (j := k2) (x := nI (b.getD k2 0)) hC dX10_setTemplate_116 (c := 6) (n := 120) (by decide) rfl rfl (by omega) (by decide) (hp9.1.2.1 _ (by omega)) ?_
                refine j_goto (tgt := 121) hC dX10_setTemplate_117 (by decide) ?_
                exact j_top (by first | rfl | rw [getD_out (by omega)]) K
            refine r_ast (k := 1) (j := 19 + k2) hC dX10_setTemplate_121 (c := 1) (n := 14790) (by decide) (fun _ => rfl) (rO_k1) hB rfl (by omega) (by decide) ?_
            refine j_iinc_1 (v := nI (k2 + 1)) hC dX10_setTemplate_122 (nI_add _ _) (by decide) rfl ?_
            refine j_goto (tgt := 89) hC dX10_setTemplate_125 (by decide) ?_
            exact j_R (rA_ra.trans (rA_eq fiA_succ)) (ihb (k2 + 1) (by omega) (by omega))
      · refine j_aload_n hC dX10_setTemplate_57 rfl (jrf_ref _) ?_
        refine j_aload_n hC dX10_setTemplate_58 rfl (jrf_ref _) ?_
        refine r_getN (x := zI (pF (pσ (pEnd b)))) hC kf_X10_153 dX10_setTemplate_59 rfl (hp9.2.2.1) ?_
        refine r_put hC kp_X10_16 dX10_setTemplate_62 hB rfl rfl rF_set_6 ?_
        refine j_aload_n hC dX10_setTemplate_65 rfl (jrf_ref _) ?_
        refine j_iconst (v := nI 1) hC dX10_setTemplate_66 (by decide) ?_
        refine r_put hC kp_X10_78 dX10_setTemplate_67 hB rfl rfl rF_set_0 ?_
        refine j_iconst (v := nI 0) hC dX10_setTemplate_70 (by decide) ?_
        have e9 : opSetTmpl (S, P, V, b, e, u) = (1, nI (0), setErr (S, P, V, [], e, u) (pσ (pEnd b)).1) := stm_1 (by assumption)
        exact j_iret hC9 rfl rfl dX10_setTemplate_71 ⟨(rs (rs R9 6 (zI (pF (pσ (pEnd b))))) 0 (nI (1))), ro_ans e9 (rfl) (ri_thr (ri_err (R := R9) hi1 (by have := hp9.2.2.2.1; omega) (pF_eq (by assumption)))), rfl⟩
    · refine j_aload_n hC dX10_setTemplate_23 rfl (jrf_ref _) ?_
      refine r_get hC kf_X10_29 dX10_setTemplate_24 rfl ?_
      refine j_iload_n hC dX10_setTemplate_27 rfl ?_
      refine j_aload_n hC dX10_setTemplate_28 rfl (jrf_ref _) ?_
      refine r_get hC kf_X10_13 dX10_setTemplate_29 rfl ?_
      refine j_iload_n hC dX10_setTemplate_32 rfl ?_
      refine r_aldN (k := 4) (j := k) (x := nI (b.getD (k) 0)) hC dX10_setTemplate_33 (c := 2) (n := 120) (by decide) rfl rfl (by omega) (by decide) (ri_bc hi _ (by omega)) ?_
      refine r_ast (k := 10) (j := k) hC dX10_setTemplate_34 (c := 6) (n := 120) (by decide) (fun _ => rfl) (rO_k10) hB rfl (by omega) (by decide) ?_
      refine j_iinc_1 (v := nI (k + 1)) hC dX10_setTemplate_35 (nI_add _ _) (by decide) rfl ?_
      refine j_goto (tgt := 15) hC dX10_setTemplate_38 (by decide) ?_
      exact j_R (rA_ra.trans (rA_eq lnA_s)) (ih (k + 1) (by omega) (by omega))
