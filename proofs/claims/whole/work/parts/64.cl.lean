/-! ===== a template has no more items than signs ===== -/
def adv (L : List Nat) (σ σ' : pS) : Prop := σ'.2 = true → σ.2 = true ∧ σ.1 ≤ σ'.1 ∧ (σ.1 ≤ L.length → σ'.1 ≤ L.length)
section AD
variable {L : List Nat} {σ σ' σ'' : pS} {c : Nat}
theorem adv_refl : adv L σ σ := fun h => ⟨h, Nat.le_refl _, id⟩
theorem adv.trans (h : adv L σ σ') (h2 : adv L σ' σ'') : adv L σ σ'' := fun e => by
  obtain ⟨a1, a2, a3⟩ := h2 e
  obtain ⟨b1, b2, b3⟩ := h a1
  exact ⟨b1, Nat.le_trans b2 a2, fun g => a3 (b3 g)⟩
theorem adv_1 (h0 : σ.2 = true) (h : 0 < pC L σ.1) : adv L σ (σ.1 + 1, true) := fun _ => ⟨h0, Nat.le_succ _, fun _ => lt_of_pC h⟩
theorem adv_next (hc : 0 < c) : adv L σ (pNext L c σ) := by
  by_cases h : pNx L c σ = true
  · rw [pNext_of h]
    have h2 := pNx_iff.mp h
    exact adv_1 h2.1 (by omega)
  · rw [pNext_no h]; exact adv_refl
theorem adv_want (hc : 0 < c) : adv L σ (pWant L c σ) := by
  unfold pWant
  split
  · split
    · exact adv_1 (by assumption) (by omega)
    · intro e; cases e
  · exact adv_refl
theorem adv_dig {m : Nat} : adv L σ (pDig L m σ) := by
  unfold pDig
  split
  · split
    · exact adv_1 (by assumption) (by omega)
    · intro e; cases e
  · exact adv_refl
theorem adv_num : adv L σ (pNum L σ) := by
  unfold pNum
  split
  · exact adv_dig.trans adv_dig
  · exact adv_dig
theorem pSig_0 {k : Nat} : 0 < pSig k := by
  unfold pSig
  split
  · omega
  · split <;> omega
theorem adv_cond1 : adv L σ (pCond1 L σ) := by
  unfold pCond1
  split
  · exact (adv_next (by omega)).trans adv_dig
  · split
    · exact (adv_next (by omega)).trans ((adv_want pSig_0).trans adv_num)
    · exact adv_dig
theorem adv_cond : adv L σ (pCond L σ) := (adv_next (by omega)).trans adv_cond1
theorem adv_more : ∀ (f : Nat) (σ : pS), adv L σ (pMore L f σ).2
  | 0, σ => adv_refl
  | f + 1, σ => by
    rw [pMore]
    split
    · exact (adv_next (by omega)).trans (adv_cond.trans (adv_more f _))
    · exact adv_refl
theorem adv_lit : ∀ (f i : Nat), i ≤ pLit L f i ∧ (i ≤ L.length → pLit L f i ≤ L.length)
  | 0, i => ⟨Nat.le_refl _, id⟩
  | f + 1, i => by
    rw [pLit]
    split
    · rename_i h
      have h1 := of_decide_eq_true h
      obtain ⟨a, b⟩ := adv_lit f (i + 1)
      have hl : i < L.length := lt_of_pC (by omega)
      exact ⟨by omega, fun _ => b hl⟩
    · exact ⟨Nat.le_refl _, id⟩
theorem adv_litS {f i : Nat} : adv L (i, true) (pLit L f i, true) := fun _ => ⟨rfl, adv_lit f i⟩
theorem adv_open {i : Nat} : adv L (i + 1, true) (pOpen L i).2 := adv_cond.trans ((adv_more 121 _).trans (adv_want (by omega)))
theorem adv_end {k i : Nat} : adv L (i + 1, true) (pEndσ L k i) := by
  unfold pEndσ
  split
  · refine adv.trans (σ' := pDig L 4 (i + 1, true)) adv_dig ?_
    refine adv.trans ?_ (adv_want (by omega))
    split
    · exact adv_next (by omega)
    · exact adv_next (by omega)
  · split
    · refine adv.trans ?_ (adv_want (by omega))
      have h1 : adv L (i + 1, true) (pWant L 124 (pLit L 120 (i + 1), true)) := adv_litS.trans (adv_want (by omega))
      split
      · rename_i h
        refine h1.trans (fun _ => ⟨h, ?_⟩)
        exact adv_lit 120 _
      · exact h1
    · exact adv_refl
/-- well, in the text, and no more items than places gone through -/
def pGood (L : List Nat) (P : pP) : Prop := (pσ P).2 = true → (pσ P).1 ≤ L.length ∧ (pIts P).length ≤ (pσ P).1
theorem good_1 {P : pP} (h : (pσ P).1 ≤ L.length ∧ (pIts P).length ≤ (pσ P).1) (h2 : (pσ P).2 = true) : pGood L (pStep1 L P) := by
  unfold pStep1
  split
  · rename_i hc
    have hl : (pσ P).1 < L.length := lt_of_pC (by omega)
    split
    · intro e; cases e
    · intro e
      obtain ⟨a, b, c⟩ := adv_open (L := L) (i := (pσ P).1) e
      refine ⟨c hl, ?_⟩
      rw [show (pIts (((pOpen L (pσ P).1).2, pIts P ++ [(5, (pσ P).1, pOp P, (pCos P).length, (pCos P).length + (pOpen L (pσ P).1).1.length, 0)], pCos P ++ (pOpen L (pσ P).1).1, (pIts P).length :: pOp P, max (pDeep P) ((pOp P).length + 1)) : pP)).length = (pIts P).length + 1 from List.length_append]
      exact Nat.le_trans (Nat.succ_le_succ h.2) b
  · split
    · rename_i hc
      have hl : (pσ P).1 < L.length := lt_of_pC (by omega)
      split
      · intro e; cases e
      · intro e
        refine ⟨hl, ?_⟩
        rename_i i s ho
        rw [show (pIts ((((pσ P).1 + 1, true), setTill (pIts P) i (pIts P).length, pCos P, s, pDeep P) : pP)).length = (pIts P).length from List.length_set]
        exact Nat.le_succ_of_le h.2
    · split
      · intro e; cases e
      · rename_i k hk
        intro e
        have hl : (pσ P).1 < L.length := by
          refine lt_of_pC ?_
          by_cases e : pC L (pσ P).1 = 0
          · rw [e, show pKind 0 = none from by decide] at hk; cases hk
          · omega
        obtain ⟨a, b, c⟩ := adv_end (L := L) (k := k) (i := (pσ P).1) e
        refine ⟨c hl, ?_⟩
        rw [show (pIts ((pEndσ L k (pσ P).1, pIts P ++ [(k, (pσ P).1, pOp P, pOne L k (pσ P).1, pTwo L k (pσ P).1, (pIts P).length + 1)], pCos P, pOp P, pDeep P) : pP)).length = (pIts P).length + 1 from List.length_append]
        exact Nat.le_trans (Nat.succ_le_succ h.2) b
theorem good_iter : ∀ (n : Nat) (P : pP), pGood L P → pGood L (pIter L n P)
  | 0, P, h => h
  | n + 1, P, h => by
    refine good_iter n (pStep L P) ?_
    unfold pStep
    by_cases hr : pRuns L P = true
    · rw [if_pos hr]
      have hw : (pσ P).2 = true := by
        rw [pRuns, Bool.and_eq_true] at hr
        exact hr.1
      exact good_1 (h hw) hw
    · rw [if_neg hr]; exact h
theorem its_le (h : pOK L = true) : (pIts (pEnd L)).length ≤ L.length := by
  unfold pOK pEnd at h
  unfold pEnd
  have g := good_iter (L := L) 122 pP0 (fun _ => ⟨Nat.zero_le _, Nat.zero_le _⟩) h
  exact Nat.le_trans g.2 g.1
end AD
section CH
variable {its : List pIt} {y j : Nat} {r : List Nat}
theorem chw_c (h : iPath (pAtI its y) = j :: r) (h2 : iPath (pAtI its j) = r) : chnA its y = chnA its j ++ [iPlace (pAtI its y)] := by
  rw [chnA, h, List.reverse_cons, List.map_append, chnA, h2]
  rfl
theorem chw_len : (chnA its y).length = (iPath (pAtI its y)).length + 1 := by
  rw [chnA, List.length_append, List.length_map, List.length_reverse]
  rfl
theorem chw_last : (chnA its y).getD (iPath (pAtI its y)).length 0 = iPlace (pAtI its y) := by
  rw [chnA, List.getD_eq_getElem?_getD, List.getElem?_append_right (by rw [List.length_map, List.length_reverse]; exact Nat.le_refl _), List.length_map, List.length_reverse, Nat.sub_self]
  rfl
theorem chw_pre (h : iPath (pAtI its y) = j :: r) (h2 : iPath (pAtI its j) = r) {m : Nat} (hm : m ≤ r.length) : (chnA its y).getD m 0 = (chnA its j).getD m 0 := by
  rw [chw_c h h2, List.getD_eq_getElem?_getD, List.getElem?_append_left (by rw [chw_len, h2]; omega), ← List.getD_eq_getElem?_getD]
end CH
theorem zI_n1 {n : Nat} : ¬ jin (zI (-1)) n = true := by
  intro h
  unfold jin at h
  simp at h
set_option maxHeartbeats 4000000 in
set_option maxRecDepth 100000 in
theorem m_X6_explain {G : jG} {M : jM} {a r lim : Nat} {X : List Nat × Bool} {ch : Nat → Int32} {lay p f : Nat} {L : List Nat} {Z : jH} (hs : (gL G).stackTraces = false) (h : shS M.1 a X 0 r lim ch) (hl : layR Z lay L) (hpc : pieR Z L (pCos (pEnd L)) p (pAtI (pIts (pEnd L)) f)) (hf : f < (pIts (pEnd L)).length) (hz : sub Z M.1) (hz3 : zn3 Z a) (hlim : lim ≤ 200) (hBa : gB G ≤ a) : JMet G jX6_explain [.ref a, .ref lay, .ref p] (M) 0 0 1 (fun v M' => v = none ∧ ∃ ch', shS M'.1 a X (chnA (pIts (pEnd L)) f).length r lim ch' ∧ (∀ m, m < (chnA (pIts (pEnd L)) f).length → ch' m = nI ((chnA (pIts (pEnd L)) f).getD m 0)) ∧ on3 M M' a) jNo := by
  refine jMet_of [some (.ref (a)), some (.ref (lay)), some (.ref (p)), none, none] (by decide) rfl (Nat.le_of_ble_eq_true rfl) (rfl) hs ?_
  intro C hC9 hG
  have hC := hC9.z
  have hs9 := jOK0_tr hC
  refine j_lt (fun hlt => ?_)
  have hBg : jB C = gB G := by rw [jB, hG]
  subst hG
  obtain ⟨⟨lb, lf, l1, l2, l3⟩, hL120, -, hok⟩ := id hl
  have hwf := wf_end hok
  have hle := its_le hok
  obtain ⟨z1, z2, z3, v1, v2⟩ := id hpc
  have hD4 := (hwf.1 f hf).2.2.2.2.2.2.2.2.2.2.2
  refine j_aload_n hC dX6_explain_0 rfl (jrf_ref _) ?_
  refine j_astore_n3 hC dX6_explain_1 (jrf_ref _) (by decide) rfl ?_
  refine j_aload_n hC dX6_explain_2 rfl (jrf_ref _) ?_
  refine j_get (v := .int (nI ((iPath (pAtI (pIts (pEnd L)) f)).length))) hC kf_X6_156 dX6_explain_3 (hz _ _ v1) (rfl) ?_
  refine j_iconst (v := nI 4) hC dX6_explain_6 (by decide) ?_
  refine c_min (a := (iPath (pAtI (pIts (pEnd L)) f)).length) (b := 4) hC ks_X6_43 dX6_explain_7 (by omega) (by omega) (by decide) (Nat.le_of_ble_eq_true rfl) ?_
  refine j_top (by rw [Nat.min_eq_left hD4]) ?_
  refine j_istore_4 hC dX6_explain_10 (by decide) rfl ?_
  suffices K : ∀ (n9 : Nat) (Mr : jM) (y : Nat) (p9 : Nat) (i : Nat) (kk : Nat) (ch9 : Nat → Int32), i < n9 → (y < (pIts (pEnd L)).length) → (pieR Z L (pCos (pEnd L)) p9 (pAtI (pIts (pEnd L)) y)) → (i = (iPath (pAtI (pIts (pEnd L)) y)).length) → (kk + i = (iPath (pAtI (pIts (pEnd L)) f)).length) → (∀ m, i < m → m ≤ (iPath (pAtI (pIts (pEnd L)) f)).length → ch9 m = nI ((chnA (pIts (pEnd L)) f).getD m 0)) → (∀ m, m ≤ i → (chnA (pIts (pEnd L)) f).getD m 0 = (chnA (pIts (pEnd L)) y).getD m 0) → (shS Mr.1 a X kk r lim ch9) → (on3 M Mr a) → (sub Z Mr.1) → J C (Mr) 0 0 12 [some (.ref (a)), some (.ref (lay)), none, some (.ref (p9)), some (.int (nI (i)))] [] from (j_L (jle_s (jle_s (jle_n (jle_s (jle_s (jle_0)))))) (K _ (M) (f) (p) ((iPath (pAtI (pIts (pEnd L)) f)).length) (0) (ch) (Nat.lt_succ_self _) (hf) (hpc) (rfl) (Nat.zero_add _) (fun m h1 h2 => by omega) (fun m h1 => rfl) (h) (on3_refl) (hz)))
  intro n9
  induction n9 with
  | zero => intro Mr y p9 i kk ch9 hm; omega
  | succ n9 ih =>
    intro Mr y p9 i kk ch9 hm hy hpy hi hkk hch hpr hsh hfr hzr
    obtain ⟨o1, ⟨g, o2, o3⟩, o4, o5⟩ := id hsh
    obtain ⟨q1, q2, q3, w1, w2⟩ := id hpy
    have hwy := hwf.1 y hy
    have hp4 := hwy.2.2.2.2.2.2.2.2.2.2.2
    have hpl := hwy.2.1
    refine j_iload hC dX6_explain_12 rfl ?_
    refine n_if_lt (tgt := 57) hC dX6_explain_14 (by decide) (by omega) (fun c1 => ?_) (fun c1 => ?_)
    · exact (show False by omega).elim
    · refine j_aload_n hC dX6_explain_17 rfl (jrf_ref _) ?_
      refine j_ifnull hC dX6_explain_18 ?_
      refine j_aload_n hC dX6_explain_21 rfl (jrf_ref _) ?_
      refine j_get (v := .ref (a + 2)) hC kf_X6_15 dX6_explain_22 (o1) (rfl) ?_
      refine j_iload hC dX6_explain_25 rfl ?_
      refine j_aload_n hC dX6_explain_27 rfl (jrf_ref _) ?_
      refine j_get (v := .int (nI (iPlace (pAtI (pIts (pEnd L)) y)))) hC kf_X6_159 dX6_explain_28 (hzr _ _ w1) (rfl) ?_
      refine c_iast (i := i) (x := nI (iPlace (pAtI (pIts (pEnd L)) y))) hC dX6_explain_31 (o4) (by omega) (by omega) (by omega) ?_
      have hchb : ∀ m, i ≤ m → m ≤ (iPath (pAtI (pIts (pEnd L)) f)).length → upd ch9 i (nI (iPlace (pAtI (pIts (pEnd L)) y))) m = nI ((chnA (pIts (pEnd L)) f).getD m 0) := fun m h1 h2 => by
        by_cases e9 : m = i
        · rw [e9]; exact (if_pos rfl).trans (congrArg nI (by rw [hpr i (Nat.le_refl _), hi]; exact chw_last.symm))
        · rw [pk_un e9]; exact hch m (by omega) h2
      rcases hpth : iPath (pAtI (pIts (pEnd L)) y) with _ | ⟨j9, r9⟩
      · have hi0 : i = 0 := by rw [hi, hpth]; rfl
        refine j_aload_n hC dX6_explain_32 rfl (jrf_ref _) ?_
        refine j_aload_n hC dX6_explain_33 rfl (jrf_ref _) ?_
        refine j_get (v := .int (zI (optZ (iPath (pAtI (pIts (pEnd L)) y)).head?))) hC kf_X6_162 dX6_explain_34 ((sub_put (hz3.2.2) hzr) _ _ w1) (rfl) ?_
        refine j_top (show zI (optZ (iPath (pAtI (pIts (pEnd L)) y)).head?) = zI (-1) from by rw [hpth] <;> rfl) ?_
        refine c_V hC kv_X6_58 dX6_explain_37 (m_X2_pieceAt_n (v := zI (-1)) hs9 ((sub_put (hz3.2.2) hzr) _ _ l1) zI_n1 (by omega)) ((sub_put (hz3.2.2) hzr) _ _ l1) rfl rfl rfl rfl (by decide) (Nat.le_of_ble_eq_true rfl) ?_
        refine j_astore_n3 hC dX6_explain_40 jrf_null (by decide) rfl ?_
        refine j_aload_n hC dX6_explain_41 rfl (jrf_ref _) ?_
        refine j_dup hC dX6_explain_42 rfl ?_
        refine j_get (v := .int (nI (kk))) hC kf_X6_23 dX6_explain_43 ((jput_ne (by show (a) ≠ (a + 2); omega)).trans (o1)) (rfl) ?_
        refine j_iconst (v := nI 1) hC dX6_explain_46 (by decide) ?_
        refine n_iadd hC dX6_explain_47 ?_
        refine c_put (fs' := [.ref (a + 1), .ref (a + 2), .int (nI (X).1.length), .int (nI (kk + 1)), .int (nI (r)), .int (nI (lim)), .int (jb ((X).2 = true))]) hC kp_X6_23 dX6_explain_48 ((jput_ne (by show (a) ≠ (a + 2); omega)).trans (o1)) (by omega) (rfl) (rfl) rfl ?_
        rw [show nI i = zI ((0 : Nat) : Int) from by rw [hi0] <;> rfl]
        refine j_iinc_4 (v := zI ((((0 : Nat) : Int) + (-1)))) hC dX6_explain_51 (zI_add _ (-1)) (by decide) rfl ?_
        refine j_goto (tgt := 12) hC dX6_explain_54 (by decide) ?_
        refine j_iload hC dX6_explain_12 rfl ?_
        refine z_if_lt (a := ((((0 : Nat) : Int) + (-1)))) (tgt := 57) hC dX6_explain_14 (by decide) (by unfold zB; omega) (fun c2 => ?_) (fun c2 => ?_)
        · exact j_vret hC9 rfl dX6_explain_57 (⟨rfl, _, ⟨(jput_at).trans (by rw [show (chnA (pIts (pEnd L)) f).length = kk + 1 by rw [chw_len]; omega]; rfl), ⟨g, (jput_ne (by show (a + 1) ≠ (a); omega)).trans ((jput_ne (by show (a + 1) ≠ (a + 2); omega)).trans (o2)), o3⟩, (jput_ne (by show (a + 2) ≠ (a); omega)).trans (jput_at), o5⟩, fun m hm => hchb m (by omega) (by rw [chw_len] at hm; omega), fun b9 hb1 hb2 hb3 => (jput_ne (by show (b9) ≠ (a); omega)).trans ((jput_ne (by show (b9) ≠ (a + 2); omega)).trans (hfr b9 hb1 hb2 hb3))⟩)
        · exact (show False by omega).elim
      · have hpj : iPath (pAtI (pIts (pEnd L)) j9) = r9 := hwy.2.2.2.2.2.2.2.2.2.1 j9 r9 hpth
        have hj9 : j9 < y := ((hwy.2.2.2.2.2.2.2.2.1 j9).mp (by rw [hpth]; exact List.mem_cons_self)).1
        have hlen : i = r9.length + 1 := by rw [hi, hpth]; rfl
        obtain ⟨pj, l5, l6⟩ := l3 j9 (by omega)
        have hlj : (iPath (pAtI (pIts (pEnd L)) j9)).length = r9.length := by rw [hpj]
        have hprb : ∀ m, m ≤ i - 1 → (chnA (pIts (pEnd L)) f).getD m 0 = (chnA (pIts (pEnd L)) j9).getD m 0 := fun m h1 => (hpr m (by omega)).trans (chw_pre hpth hpj (by omega))
        refine j_aload_n hC dX6_explain_32 rfl (jrf_ref _) ?_
        refine j_aload_n hC dX6_explain_33 rfl (jrf_ref _) ?_
        refine j_get (v := .int (zI (optZ (iPath (pAtI (pIts (pEnd L)) y)).head?))) hC kf_X6_162 dX6_explain_34 ((sub_put (hz3.2.2) hzr) _ _ w1) (rfl) ?_
        refine j_top (show zI (optZ (iPath (pAtI (pIts (pEnd L)) y)).head?) = nI j9 from by rw [hpth] <;> rfl) ?_
        refine c_V hC kv_X6_58 dX6_explain_37 (m_X2_pieceAt (i := j9) (p := pj) hs9 ((sub_put (hz3.2.2) hzr) _ _ l1) ((sub_put (hz3.2.2) hzr) _ _ l2) (by omega) hle (by omega) l5) ((sub_put (hz3.2.2) hzr) _ _ l1) rfl rfl rfl rfl (by decide) (Nat.le_of_ble_eq_true rfl) ?_
        refine j_astore_n3 hC dX6_explain_40 (jrf_ref _) (by decide) rfl ?_
        refine j_aload_n hC dX6_explain_41 rfl (jrf_ref _) ?_
        refine j_dup hC dX6_explain_42 rfl ?_
        refine j_get (v := .int (nI (kk))) hC kf_X6_23 dX6_explain_43 ((jput_ne (by show (a) ≠ (a + 2); omega)).trans (o1)) (rfl) ?_
        refine j_iconst (v := nI 1) hC dX6_explain_46 (by decide) ?_
        refine n_iadd hC dX6_explain_47 ?_
        refine c_put (fs' := [.ref (a + 1), .ref (a + 2), .int (nI (X).1.length), .int (nI (kk + 1)), .int (nI (r)), .int (nI (lim)), .int (jb ((X).2 = true))]) hC kp_X6_23 dX6_explain_48 ((jput_ne (by show (a) ≠ (a + 2); omega)).trans (o1)) (by omega) (rfl) (rfl) rfl ?_
        refine j_iinc_4 (v := nI (i - 1)) hC dX6_explain_51 (j_dec (a := i) (b := 1) (by omega)) (by decide) rfl ?_
        refine j_goto (tgt := 12) hC dX6_explain_54 (by decide) ?_
        exact ih (jput (jput (Mr) (a + 2) (.inl (.int, 5, fun j => .int ((upd ch9 (i) (nI (iPlace (pAtI (pIts (pEnd L)) y)))) j)))) (a) (.inr (10, [.ref (a + 1), .ref (a + 2), .int (nI (X).1.length), .int (nI (kk + 1)), .int (nI (r)), .int (nI (lim)), .int (jb ((X).2 = true))]))) (j9) (pj) (i - 1) (kk + 1) (upd ch9 i (nI (iPlace (pAtI (pIts (pEnd L)) y)))) (by omega) (by omega) (l6) (by omega) (by omega) (fun m h1 h2 => hchb m (by omega) h2) (hprb) (⟨jput_at, ⟨g, (jput_ne (by show (a + 1) ≠ (a); omega)).trans ((jput_ne (by show (a + 1) ≠ (a + 2); omega)).trans (o2)), o3⟩, (jput_ne (by show (a + 2) ≠ (a); omega)).trans (jput_at), o5⟩) (fun b9 hb1 hb2 hb3 => (jput_ne (by show (b9) ≠ (a); omega)).trans ((jput_ne (by show (b9) ≠ (a + 2); omega)).trans (hfr b9 hb1 hb2 hb3))) ((sub_put (hz3.1) (sub_put (hz3.2.2) hzr)))
