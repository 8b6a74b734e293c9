def setW (S : aSet) (w v : Nat) : aSet := if w = 1 then withKeys S v else if w = 2 then withPol S v else withLim S v
def getW (S : aSet) (w : Nat) : Nat := if w = 1 then sKeys S else if w = 2 then sPol S else sLim S
def opSets (w a b : Nat) (v : Int32) (T : aSt) : aAns :=
  if nI a ≤ v ∧ v ≤ nI b then (0, nI (getW (tSet T) w), chg T (setW (tSet T) w (toN v)))
  else (1, 0, T)
theorem rowRep_hd {A : Nat → Int32} {S : aSet} (hS : setOK S) (h : rowRep A 0 S) {w v : Nat} (hw : w = 1 ∨ w = 2 ∨ w = 4) : rowRep (upd A w (nI v)) 0 (setW S w v) := by
  have hh := hS.2.2.2.2.2.1.1
  have ht := hS.2.2.2.2.2.2.1.1
  have hn := hS.1
  obtain ⟨h0, h1, h2, h3, h4, h5, h6, h7, h8, h9⟩ := h
  have e : ∀ j, j ≠ w → upd A w (nI v) j = A j := fun j hj => pk_un hj
  have t1 : txRep (upd A w (nI v)) (0 + 6) (sHome S) := fun i hi => (e _ (by omega)).trans (h6 i hi)
  have t2 : txRep (upd A w (nI v)) (0 + 19) (sTmpl S) := fun i hi => (e _ (by omega)).trans (h8 i hi)
  have t3 : ∀ r, r < (sRecs S).length → recRep (upd A w (nI v)) (0 + 139 + 67 * r) (sAt S r) := fun r hr => recRep_mv (setOK_rec hS hr) (fun j hj => e _ (by omega)) (h9 r hr)
  rcases hw with rfl | rfl | rfl
  · exact ⟨(e _ (by decide)).trans h0, pk_us, (e _ (by decide)).trans h2, (e _ (by decide)).trans h3, (e _ (by decide)).trans h4, (e _ (by decide)).trans h5, t1, (e _ (by decide)).trans h7, t2, t3⟩
  · exact ⟨(e _ (by decide)).trans h0, (e _ (by decide)).trans h1, pk_us, (e _ (by decide)).trans h3, (e _ (by decide)).trans h4, (e _ (by decide)).trans h5, t1, (e _ (by decide)).trans h7, t2, t3⟩
  · exact ⟨(e _ (by decide)).trans h0, (e _ (by decide)).trans h1, (e _ (by decide)).trans h2, (e _ (by decide)).trans h3, pk_us, (e _ (by decide)).trans h5, t1, (e _ (by decide)).trans h7, t2, t3⟩
theorem getW_at {R : rR} {S : aSet} (hp : rPre R S) {w : Nat} (hw : w = 1 ∨ w = 2 ∨ w = 4) : R.2 1 w = nI (getW S w) := by
  rcases hw with rfl | rfl | rfl
  · exact rp_keys hp
  · exact rp_pol hp
  · exact rp_lim hp
theorem setG_W {S : aSet} (hS : setG S) {w v : Nat} (h1 : w = 1 → v < 32) (h2 : w = 2 → v < 3) (h4 : w = 4 → 1 ≤ v ∧ v ≤ 200) (hw : w = 1 ∨ w = 2 ∨ w = 4) : setG (setW S w v) := by
  obtain ⟨⟨a1, a2, a3, a4, a5, a6, a7, a8⟩, a9⟩ := hS
  rcases hw with rfl | rfl | rfl
  · exact ⟨⟨a1, h1 rfl, a3, a4, a5, a6, a7, a8⟩, a9⟩
  · exact ⟨⟨a1, a2, h2 rfl, a4, a5, a6, a7, a8⟩, a9⟩
  · exact ⟨⟨a1, a2, a3, a4, h4 rfl, a6, a7, a8⟩, a9⟩
section OE
variable {T : aSt} {v : Int32} {w a b : Nat}
theorem set_1 (h : ¬ (nI a ≤ v ∧ v ≤ nI b)) : opSets w a b v T = (1, nI 0, T) := if_neg h
theorem set_0 (h : nI a ≤ v ∧ v ≤ nI b) : opSets w a b v T = (0, nI (getW (tSet T) w), chg T (setW (tSet T) w (toN v))) := if_pos h
theorem in_ab (h : nI a ≤ v ∧ v ≤ nI b) (ha : a < 2 ^ 31) (hb : b < 2 ^ 31) : ∃ j, a ≤ j ∧ j ≤ b ∧ v = nI j := by
  have e1 := Int32.le_iff_toInt_le.mp h.1
  have e2 := Int32.le_iff_toInt_le.mp h.2
  rw [nI_toInt ha] at e1
  rw [nI_toInt hb] at e2
  refine ⟨v.toInt.toNat, by omega, by omega, ?_⟩
  refine Int32.toInt_inj.mp ?_
  rw [nI_toInt (by omega)]
  omega
end OE
set_option maxHeartbeats 4000000 in
set_option maxRecDepth 100000 in
theorem o_X10_sets {w l m : Nat} {v : Int32} (hw : w = 1 ∨ w = 2 ∨ w = 4) (hl : l < 2 ^ 31) (hm : m < 2 ^ 31) (h1 : w = 1 → m < 32) (h2 : w = 2 → m < 3) (h4 : w = 4 → 1 ≤ l ∧ m ≤ 200) : ROp jX10_sets 2 [.int (nI w), .int v, .int (nI l), .int (nI m)] (opSets w l m v) := by
  intro R T hi
  obtain ⟨S, P, V, b, e, u⟩ := T
  intro G o M0 hs hBo
  refine jMet_of [some (.ref o), some (.int (nI w)), some (.int v), some (.int (nI l)), some (.int (nI m)), none] (by decide) rfl (Nat.le_of_ble_eq_true rfl) rfl hs ?_
  intro C hC9 hG
  have hC := hC9.z
  have hB : jB C ≤ o := by rw [jB, hG]; exact hBo
  have hp : rPre R S := ri_pre hi
  have h20 := rp_n20 hp
  have hP8 : P.length ≤ 8 := ri_pn hi
  have hb120 : b.length ≤ 120 := ri_bn hi
  refine j_aload_n hC dX10_sets_0 rfl (jrf_ref _) ?_
  refine j_iload_n hC dX10_sets_1 rfl ?_
  refine j_iload_n hC dX10_sets_2 rfl ?_
  refine j_iload hC dX10_sets_3 rfl ?_
  refine s_ci3 hC ks_X10_88 dX10_sets_5 (m_X10_in) rfl (by decide) (Nat.le_of_ble_eq_true rfl) ?_
  refine jb_if_eq (tgt := 15) hC dX10_sets_8 (by decide) (fun c1 => ?_) (fun c1 => ?_)
  · refine j_iconst (v := nI 1) hC dX10_sets_15 (by decide) ?_
    refine r_put hC kp_X10_78 dX10_sets_16 hB rfl rfl rF_set_0 ?_
    refine j_aload_n hC dX10_sets_19 rfl (jrf_ref _) ?_
    refine r_getN (x := nI (1)) hC kf_X10_78 dX10_sets_20 rfl (rfl) ?_
    refine n_if_eq (tgt := 28) hC dX10_sets_23 (by decide) (by omega) (fun c2 => ?_) (fun c2 => ?_)
    · exact absurd c2 (by decide)
    · refine j_iconst (v := nI 0) hC dX10_sets_26 (by decide) ?_
      have e9 : opSets w l m v (S, P, V, b, e, u) = (1, nI (0), (S, P, V, b, e, u)) := set_1 (by assumption)
      exact j_iret hC9 rfl rfl dX10_sets_27 ⟨(rs R 0 (nI (1))), ro_ans e9 (rfl) (hi), rfl⟩
  · refine j_iconst (v := nI 0) hC dX10_sets_11 (by decide) ?_
    refine j_goto (tgt := 16) hC dX10_sets_12 (by decide) ?_
    refine r_put hC kp_X10_78 dX10_sets_16 hB rfl rfl rF_set_0 ?_
    refine j_aload_n hC dX10_sets_19 rfl (jrf_ref _) ?_
    refine r_getN (x := nI (0)) hC kf_X10_78 dX10_sets_20 rfl (rfl) ?_
    refine n_if_eq (tgt := 28) hC dX10_sets_23 (by decide) (by omega) (fun c3 => ?_) (fun c3 => ?_)
    · obtain ⟨v9, hv1, hv2, rfl⟩ := in_ab (by assumption : nI l ≤ v ∧ v ≤ nI m) hl hm
      refine j_aload_n hC dX10_sets_28 rfl (jrf_ref _) ?_
      refine r_cv0 hC kv_X10_99 dX10_sets_29 (m_X10_keeps (R := (rs R 0 (nI (0)))) (n := P.length) hP8 (ri_ch hi)) hB rfl (by decide) (Nat.le_of_ble_eq_true rfl) ?_
      have hi2 := ri_keep (T := (S, P, V, b, e, u)) (R := (rs R 0 (nI (0)))) hi
      have hp2 : rPre (keepR (rs R 0 (nI (0))) P.length) S := ri_pre hi2
      refine j_aload_n hC dX10_sets_32 rfl (jrf_ref _) ?_
      refine r_get hC kf_X10_9 dX10_sets_33 rfl ?_
      refine j_iload_n hC dX10_sets_36 rfl ?_
      refine r_aldN (k := 1) (j := w) (x := nI (getW S w)) hC dX10_sets_37 (c := 1) (n := 14790) (by decide) rfl rfl (by omega) (by decide) (getW_at hp2 hw) ?_
      refine j_istore_5 hC dX10_sets_38 (by decide) rfl ?_
      refine j_aload_n hC dX10_sets_40 rfl (jrf_ref _) ?_
      refine r_get hC kf_X10_9 dX10_sets_41 rfl ?_
      refine j_iload_n hC dX10_sets_44 rfl ?_
      refine j_iload_n hC dX10_sets_45 rfl ?_
      refine r_ast (k := 1) (j := w) hC dX10_sets_46 (c := 1) (n := 14790) (by decide) (fun _ => rfl) (rO_k1) hB rfl (by omega) (by decide) ?_
      refine j_iload hC dX10_sets_47 rfl ?_
      have e9 : opSets w l m (nI v9) (S, P, V, b, e, u) = (0, nI (getW S w), chg (S, P, V, b, e, u) (setW S w v9)) := (set_0 (by assumption)).trans (by rw [toN_nI (by omega)])
      exact j_iret hC9 rfl rfl dX10_sets_49 ⟨(ra (keepR (rs R 0 (nI (0))) P.length) 1 (w) (nI (v9))), ro_ans e9 (rfl) (by rw [ra_rA]; exact ri_set hi2 (fun j hj => pk_un (by omega)) (rowRep_hd (ri_ok hi2).1 (ri_row hi2) hw) (setG_W (ri_ok hi2) (fun e => by omega) (fun e => by omega) (fun e => by omega) hw)), rfl⟩
    · exact absurd c3 (by decide)
theorem ro_tail {y y' : jY} {d d' n : Nat} {args As : List Value} {op : aSt → aAns} (h : ROp y' d' As op) (H : ∀ (R : rR) (T : aSt) (G : jG) (o : Nat) (M0 : jM), rInv R T → (gL G).stackTraces = false → gB G ≤ o → JMet G y (.ref o :: args) (rM o M0 R) 0 0 d (fun v M' => ∃ R', (v = some (.int (op T).2.1) ∧ R'.1 0 = nI (op T).1 ∧ rInv R' (op T).2.2) ∧ M' = rM o M0 R') jNo) : ROp y d args op := fun R T hi G o M0 hs hB => H R T G o M0 hi hs hB
set_option maxHeartbeats 4000000 in
set_option maxRecDepth 100000 in
theorem o_X10_setKeys {v : Int32} : ROp jX10_setKeys 3 [.int v] (opSets 1 0 31 v) := by
  intro R T hi G o M0 hs hBo
  refine jMet_of [some (.ref o), some (.int v)] (by decide) rfl (Nat.le_of_ble_eq_true rfl) rfl hs ?_
  intro C hC9 hG
  have hC := hC9.z
  have hB : jB C ≤ o := by rw [jB, hG]; exact hBo
  refine j_aload_n hC dX10_setKeys_0 rfl (jrf_ref _) ?_
  refine j_iconst (v := nI 1) hC dX10_setKeys_1 (by decide) ?_
  refine j_iload_n hC dX10_setKeys_2 rfl ?_
  refine j_iconst (v := nI 0) hC dX10_setKeys_3 (by decide) ?_
  refine j_bipush (v := nI 31) hC dX10_setKeys_4 (by decide) ?_
  refine r_call hC kv_X10_211 dX10_setKeys_6 (o_X10_sets (w := 1) (l := 0) (m := 31) (v := v) (by decide) (by decide) (by decide) (by decide) (by decide) (by decide) R T hi) rfl rfl hB rfl (by decide) (Nat.le_of_ble_eq_true rfl) ?_
  intro v9 R9 h9
  obtain ⟨rfl, e1, e2⟩ := h9
  exact j_iret hC9 rfl rfl dX10_setKeys_9 ⟨R9, ⟨rfl, e1, e2⟩, rfl⟩
set_option maxHeartbeats 4000000 in
set_option maxRecDepth 100000 in
theorem o_X10_setPolicy {v : Int32} : ROp jX10_setPolicy 3 [.int v] (opSets 2 0 2 v) := by
  intro R T hi G o M0 hs hBo
  refine jMet_of [some (.ref o), some (.int v)] (by decide) rfl (Nat.le_of_ble_eq_true rfl) rfl hs ?_
  intro C hC9 hG
  have hC := hC9.z
  have hB : jB C ≤ o := by rw [jB, hG]; exact hBo
  refine j_aload_n hC dX10_setPolicy_0 rfl (jrf_ref _) ?_
  refine j_iconst (v := nI 2) hC dX10_setPolicy_1 (by decide) ?_
  refine j_iload_n hC dX10_setPolicy_2 rfl ?_
  refine j_iconst (v := nI 0) hC dX10_setPolicy_3 (by decide) ?_
  refine j_iconst (v := nI 2) hC dX10_setPolicy_4 (by decide) ?_
  refine r_call hC kv_X10_211 dX10_setPolicy_5 (o_X10_sets (w := 2) (l := 0) (m := 2) (v := v) (by decide) (by decide) (by decide) (by decide) (by decide) (by decide) R T hi) rfl rfl hB rfl (by decide) (Nat.le_of_ble_eq_true rfl) ?_
  intro v9 R9 h9
  obtain ⟨rfl, e1, e2⟩ := h9
  exact j_iret hC9 rfl rfl dX10_setPolicy_8 ⟨R9, ⟨rfl, e1, e2⟩, rfl⟩
set_option maxHeartbeats 4000000 in
set_option maxRecDepth 100000 in
theorem o_X10_setLimit {v : Int32} : ROp jX10_setLimit 3 [.int v] (opSets 4 1 200 v) := by
  intro R T hi G o M0 hs hBo
  refine jMet_of [some (.ref o), some (.int v)] (by decide) rfl (Nat.le_of_ble_eq_true rfl) rfl hs ?_
  intro C hC9 hG
  have hC := hC9.z
  have hB : jB C ≤ o := by rw [jB, hG]; exact hBo
  refine j_aload_n hC dX10_setLimit_0 rfl (jrf_ref _) ?_
  refine j_iconst (v := nI 4) hC dX10_setLimit_1 (by decide) ?_
  refine j_iload_n hC dX10_setLimit_2 rfl ?_
  refine j_iconst (v := nI 1) hC dX10_setLimit_3 (by decide) ?_
  refine j_sipush (v := nI 200) hC dX10_setLimit_4 (by decide) ?_
  refine r_call hC kv_X10_211 dX10_setLimit_7 (o_X10_sets (w := 4) (l := 1) (m := 200) (v := v) (by decide) (by decide) (by decide) (by decide) (by decide) (by decide) R T hi) rfl rfl hB rfl (by decide) (Nat.le_of_ble_eq_true rfl) ?_
  intro v9 R9 h9
  obtain ⟨rfl, e1, e2⟩ := h9
  exact j_iret hC9 rfl rfl dX10_setLimit_10 ⟨R9, ⟨rfl, e1, e2⟩, rfl⟩
theorem wrong_k {b : List Nat} {k : Nat} (hk : k < b.length) (h : k = 12 ∨ b.getD k 0 = 47) (ha : ∀ j, j < k → ¬ (j = 12 ∨ b.getD j 0 = 47)) : wrongA b = some k := by
  rw [wrongA, List.find?_range_eq_some]
  refine ⟨decide_eq_true h, List.mem_range.mpr hk, fun j hj => ?_⟩
  rw [decide_eq_false (ha j hj)]
  rfl
theorem wrong_n {b : List Nat} (ha : ∀ j, j < b.length → ¬ (j = 12 ∨ b.getD j 0 = 47)) : wrongA b = none := by
  rw [wrongA, List.find?_range_eq_none]
  intro j hj
  rw [decide_eq_false (ha j hj)]
  rfl
theorem wrong_ok {b : List Nat} (h : wrongA b = none) : b.length ≤ 12 ∧ ∀ c ∈ b, c ≠ 47 := by
  rw [wrongA, List.find?_range_eq_none] at h
  refine ⟨?_, ?_⟩
  · by_cases hc : b.length ≤ 12
    · exact hc
    · have := h 12 (by omega)
      rw [decide_eq_true (Or.inl rfl)] at this
      exact absurd this (by decide)
  · intro c hc e
    obtain ⟨j, hj, rfl⟩ := List.getElem_of_mem hc
    have := h j hj
    rw [decide_eq_true (Or.inr (by rw [List.getD_eq_getElem?_getD, List.getElem?_eq_getElem hj]; exact e))] at this
    exact absurd this (by decide)
theorem wrong_lt {b : List Nat} {k : Nat} (h : wrongA b = some k) : k < b.length := by
  rw [wrongA, List.find?_range_eq_some] at h
  exact List.mem_range.mp h.2.1
set_option maxHeartbeats 4000000 in
set_option maxRecDepth 100000 in
theorem m_X10_wrongField {R : rR} {b : List Nat} (hb : b.length ≤ 120) (h5 : R.1 5 = nI b.length) (hc : ∀ i, i < b.length → R.2 4 i = nI (b.getD i 0)) (ho : ∀ c ∈ b, 32 ≤ c ∧ c ≤ 126) : RI jX10_wrongField 0 [] R (zI (optZ (wrongA b))) R := by
  intro G o M0 hs hBo
  refine jMet_of [some (.ref o), none] (by decide) rfl (Nat.le_of_ble_eq_true rfl) rfl hs ?_
  intro C hC9 hG
  have hC := hC9.z
  have hB : jB C ≤ o := by rw [jB, hG]; exact hBo
  refine j_iconst (v := nI 0) hC dX10_wrongField_0 (by decide) ?_
  refine j_istore_n1 hC dX10_wrongField_1 (by decide) rfl ?_
  suffices K : ∀ (n9 : Nat) (k : Nat), b.length - k < n9 → (k ≤ b.length) → (∀ j, j < k → ¬ (j = 12 ∨ b.getD j 0 = 47)) → J C (rM o M0 (R)) 0 0 2 [some (.ref o), some (.int (nI (k)))] [] from j_R (rfl) (K _ (0) (Nat.lt_succ_self _) (Nat.zero_le _) (fun j hj => absurd hj (by omega)))
  intro n9
  induction n9 with
  | zero => intro k hm; omega
  | succ n9 ih =>
    intro k hm hk ha
    refine j_iload_n hC dX10_wrongField_2 rfl ?_
    refine j_aload_n hC dX10_wrongField_3 rfl (jrf_ref _) ?_
    refine r_getN (x := nI (b.length)) hC kf_X10_96 dX10_wrongField_4 rfl (h5) ?_
    refine n_icmp_ge (tgt := 35) hC dX10_wrongField_7 (by decide) (by omega) (by omega) (fun c1 => ?_) (fun c1 => ?_)
    · refine j_iconst (v := zI (-1)) hC dX10_wrongField_35 (by decide) ?_
      exact j_iret hC9 rfl rfl dX10_wrongField_36 ⟨_, ⟨(jv (by rw [wrong_n (fun j hj => ha j (by omega))]; rfl)), rfl⟩, rfl⟩
    · refine j_iload_n hC dX10_wrongField_10 rfl ?_
      refine j_bipush (v := nI 12) hC dX10_wrongField_11 (by decide) ?_
      refine n_icmp_eq (tgt := 27) hC dX10_wrongField_13 (by decide) (by omega) (by omega) (fun c2 => ?_) (fun c2 => ?_)
      · refine j_iload_n hC dX10_wrongField_27 rfl ?_
        exact j_iret hC9 rfl rfl dX10_wrongField_28 ⟨_, ⟨(jv (by rw [wrong_k (by omega) (by omega) ha]; rfl)), rfl⟩, rfl⟩
      · have hck := getD_lt126 ho (show k < b.length by omega)
        refine j_aload_n hC dX10_wrongField_16 rfl (jrf_ref _) ?_
        refine r_get hC kf_X10_13 dX10_wrongField_17 rfl ?_
        refine j_iload_n hC dX10_wrongField_20 rfl ?_
        refine r_aldN (k := 4) (j := k) (x := nI (b.getD (k) 0)) hC dX10_wrongField_21 (c := 2) (n := 120) (by decide) rfl rfl (by omega) (by decide) (hc _ (by omega)) ?_
        refine j_bipush (v := nI 47) hC dX10_wrongField_22 (by decide) ?_
        refine n_icmp_ne (tgt := 29) hC dX10_wrongField_24 (by decide) (by omega) (by omega) (fun c3 => ?_) (fun c3 => ?_)
        · refine j_iinc_1 (v := nI (k + 1)) hC dX10_wrongField_29 (nI_add _ _) (by decide) rfl ?_
          refine j_goto (tgt := 2) hC dX10_wrongField_32 (by decide) ?_
          exact j_R (rfl) (ih (k + 1) (by omega) (by omega) (fun j hj => if e : j = k then by subst e; omega else ha j (by omega)))
        · refine j_iload_n hC dX10_wrongField_27 rfl ?_
          exact j_iret hC9 rfl rfl dX10_wrongField_28 ⟨_, ⟨(jv (by rw [wrong_k (by omega) (by omega) ha]; rfl)), rfl⟩, rfl⟩
