/-- a piece of a row, copied -/
def blk (A : Nat → Int32) (a b k : Nat) : Nat → Int32 := fun j => if b ≤ j ∧ j < b + k then A (a + (j - b)) else A j
theorem blk_0 {A : Nat → Int32} {a b : Nat} : blk A a b 0 = A := by
  funext j
  simp only [blk]
  rw [if_neg (by omega)]
theorem blk_succ {A : Nat → Int32} {a b k : Nat} (h : a = b ∨ b + 67 ≤ a ∨ a + 67 ≤ b) (hk : k < 67) : upd (blk A a b k) (b + k) (blk A a b k (a + k)) = blk A a b (k + 1) := by
  funext j
  simp only [blk, upd]
  by_cases h : j = b + k
  · subst h
    rw [if_pos rfl, if_neg (by omega), if_pos ⟨by omega, by omega⟩]
    exact congrArg A (by omega)
  · rw [if_neg h]
    by_cases h2 : b ≤ j ∧ j < b + k
    · rw [if_pos h2, if_pos ⟨h2.1, by omega⟩]
    · rw [if_neg h2, if_neg (by omega)]
set_option maxHeartbeats 4000000 in
set_option maxRecDepth 100000 in
theorem m_X10_moves {R : rR} {f t : Nat} (hf : f < 20) (ht : t < 20) : RV jX10_moves 0 [.int (nI f), .int (nI t)] R (rA R 1 (blk (R.2 1) (139 + 67 * f) (139 + 67 * t) 67)) := by
  intro G o M0 hs hBo
  refine jMet_of [some (.ref o), some (.int (nI f)), some (.int (nI t)), none] (by decide) rfl (Nat.le_of_ble_eq_true rfl) rfl hs ?_
  intro C hC9 hG
  have hC := hC9.z
  have hB : jB C ≤ o := by rw [jB, hG]; exact hBo
  refine j_iconst (v := nI 0) hC dX10_moves_0 (by decide) ?_
  refine j_istore_n3 hC dX10_moves_1 (by decide) rfl ?_
  suffices K : ∀ (n9 : Nat) (k : Nat), 67 - k < n9 → (k ≤ 67) → J C (rM o M0 (rA R 1 (blk (R.2 1) (139 + 67 * f) (139 + 67 * t) k))) 0 0 2 [some (.ref o), some (.int (nI (f))), some (.int (nI (t))), some (.int (nI (k)))] [] from j_R (by rw [blk_0]; exact rA_self.symm) (K _ (0) (Nat.lt_succ_self _) (by omega))
  intro n9
  induction n9 with
  | zero => intro k hm; omega
  | succ n9 ih =>
    intro k hm hk
    refine j_iload_n hC dX10_moves_2 rfl ?_
    refine j_bipush (v := nI 67) hC dX10_moves_3 (by decide) ?_
    refine n_icmp_ge (tgt := 44) hC dX10_moves_5 (by decide) (by omega) (by omega) (fun c1 => ?_) (fun c1 => ?_)
    · exact j_vret hC9 rfl dX10_moves_44 ⟨_, ⟨rfl, by rw [show k = 67 by omega]⟩, rfl⟩
    · refine j_aload_n hC dX10_moves_8 rfl (jrf_ref _) ?_
      refine r_get hC kf_X10_9 dX10_moves_9 rfl ?_
      refine j_sipush (v := nI 139) hC dX10_moves_12 (by decide) ?_
      refine j_bipush (v := nI 67) hC dX10_moves_15 (by decide) ?_
      refine j_iload_n hC dX10_moves_17 rfl ?_
      refine n_imul hC dX10_moves_18 ?_
      refine n_iadd hC dX10_moves_19 ?_
      refine j_iload_n hC dX10_moves_20 rfl ?_
      refine n_iadd hC dX10_moves_21 ?_
      refine j_aload_n hC dX10_moves_22 rfl (jrf_ref _) ?_
      refine r_get hC kf_X10_9 dX10_moves_23 rfl ?_
      refine j_sipush (v := nI 139) hC dX10_moves_26 (by decide) ?_
      refine j_bipush (v := nI 67) hC dX10_moves_29 (by decide) ?_
      refine j_iload_n hC dX10_moves_31 rfl ?_
      refine n_imul hC dX10_moves_32 ?_
      refine n_iadd hC dX10_moves_33 ?_
      refine j_iload_n hC dX10_moves_34 rfl ?_
      refine n_iadd hC dX10_moves_35 ?_
      refine r_ald (k := 1) (j := ((139) + (67 * f)) + (k)) hC dX10_moves_36 (c := 1) (n := 14790) (by decide) rfl rfl (by omega) (by decide) ?_
      refine r_ast (k := 1) (j := ((139) + (67 * t)) + (k)) hC dX10_moves_37 (c := 1) (n := 14790) (by decide) (fun _ => rfl) (rO_k1) hB rfl (by omega) (by decide) ?_
      refine j_iinc_3 (v := nI (k + 1)) hC dX10_moves_38 (nI_add _ _) (by decide) rfl ?_
      refine j_goto (tgt := 2) hC dX10_moves_41 (by decide) ?_
      exact j_R (rA_ra.trans (rA_eq (blk_succ (by omega) (by omega)))) (ih (k + 1) (by omega) (by omega))
/-- the records behind r, as far as k, one place ahead -/
def delA (A : Nat → Int32) (r k : Nat) : Nat → Int32 := fun j => if 139 + 67 * r ≤ j ∧ j < 139 + 67 * k then A (j + 67) else A j
theorem delA_0 {A : Nat → Int32} {r : Nat} : delA A r r = A := by
  funext j
  simp only [delA]
  rw [if_neg (by omega)]
theorem delA_succ {A : Nat → Int32} {r k : Nat} (h : r ≤ k) : blk (delA A r k) (139 + 67 * (k + 1)) (139 + 67 * k) 67 = delA A r (k + 1) := by
  funext j
  simp only [blk, delA]
  by_cases h2 : 139 + 67 * k ≤ j ∧ j < 139 + 67 * k + 67
  · rw [if_pos h2, if_neg (by omega), if_pos (by omega)]
    exact congrArg A (by omega)
  · rw [if_neg h2]
    by_cases h3 : 139 + 67 * r ≤ j ∧ j < 139 + 67 * k
    · rw [if_pos h3, if_pos (by omega)]
    · rw [if_neg h3, if_neg (by omega)]
theorem getD_erase {L : List aRec} {r q : Nat} : (L.eraseIdx r).getD q rec0 = if q < r then L.getD q rec0 else L.getD (q + 1) rec0 := by
  rw [List.getD_eq_getElem?_getD, List.getElem?_eraseIdx]
  split
  · rw [List.getD_eq_getElem?_getD]
  · rw [List.getD_eq_getElem?_getD]
theorem del_row {A : Nat → Int32} {S : aSet} {r : Nat} (hS : setOK S) (h : rowRep A 0 S) (hr : r < (sRecs S).length) : rowRep (upd (delA A r ((sRecs S).length - 1)) 0 (nI ((sRecs S).length - 1))) 0 (withRecs S ((sRecs S).eraseIdx r)) := by
  have hl : ((sRecs S).eraseIdx r).length = (sRecs S).length - 1 := by rw [List.length_eraseIdx, if_pos hr]
  refine rowRep_recs hS h ?_ ?_ ?_
  · rw [hl]
    exact pk_us
  · intro j h1 h2
    simp only [upd, delA]
    rw [if_neg (by omega), if_neg (by omega)]
  · intro q hq
    rw [hl] at hq
    rw [getD_erase]
    by_cases hc : q < r
    · rw [if_pos hc]
      refine recRep_mv (setOK_rec hS (by omega)) (fun j hj => ?_) (recRep_at h (by omega : q < _))
      simp only [upd, delA]
      rw [if_neg (by omega), if_neg (by omega)]
    · rw [if_neg hc]
      refine recRep_mv (setOK_rec hS (by omega)) (fun j hj => ?_) (recRep_at h (by omega : q + 1 < _))
      simp only [upd, delA]
      rw [if_neg (by omega), if_pos (by omega)]
      exact congrArg A (by omega)
theorem del_hi {A : Nat → Int32} {r k j : Nat} {v : Int32} (hk : k < 20) (h : 1479 ≤ j) : upd (delA A r k) 0 v j = A j := by
  simp only [upd, delA]
  rw [if_neg (by omega), if_neg (by omega)]
theorem setG_len {S : aSet} (h : setG S) : (sRecs S).length ≤ 20 := h.1.1
theorem setG_all {S : aSet} (h : setG S) : ∀ q ∈ sRecs S, recOK q := h.1.2.2.2.2.2.2.2
theorem setG_at {S : aSet} (h : setG S) {r : Nat} (hr : r < (sRecs S).length) : recOK (sAt S r) := setOK_rec h.1 hr
section OB
variable {T : aSt} {r : Int32}
theorem rem_1 (h : ¬ jin r (sRecs (tSet T)).length = true) : opRemove r T = (1, nI 0, T) := if_neg h
theorem rem_0 {a : Nat} (ha : a < (sRecs (tSet T)).length) (h20 : (sRecs (tSet T)).length ≤ 20) : opRemove (nI a) T = (0, nI ((sRecs (tSet T)).length - 1), chg T (withRecs (tSet T) ((sRecs (tSet T)).eraseIdx a))) := by
  rw [opRemove, if_pos (by rw [jin_nI (by omega)]; exact decide_eq_true ha), toN_nI (by omega)]
end OB
set_option maxHeartbeats 4000000 in
set_option maxRecDepth 100000 in
theorem o_X10_removeRecord {r : Int32} : ROp jX10_removeRecord 2 [.int r] (opRemove r) := by
  intro R T hi
  obtain ⟨S, P, V, b, e, u⟩ := T
  intro G o M0 hs hBo
  refine jMet_of [some (.ref o), some (.int r), none] (by decide) rfl (Nat.le_of_ble_eq_true rfl) rfl hs ?_
  intro C hC9 hG
  have hC := hC9.z
  have hB : jB C ≤ o := by rw [jB, hG]; exact hBo
  have hp : rPre R S := ri_pre hi
  have h20 := rp_n20 hp
  have hP8 : P.length ≤ 8 := ri_pn hi
  have hb120 : b.length ≤ 120 := ri_bn hi
  refine j_aload_n hC dX10_removeRecord_0 rfl (jrf_ref _) ?_
  refine j_aload_n hC dX10_removeRecord_1 rfl (jrf_ref _) ?_
  refine j_iload_n hC dX10_removeRecord_2 rfl ?_
  refine r_ci1 hC kv_X10_102 dX10_removeRecord_3 (m_X10_isRecord hp) hB rfl (by decide) (Nat.le_of_ble_eq_true rfl) ?_
  refine jb_if_eq (tgt := 13) hC dX10_removeRecord_6 (by decide) (fun c1 => ?_) (fun c1 => ?_)
  · refine j_iconst (v := nI 1) hC dX10_removeRecord_13 (by decide) ?_
    refine r_put hC kp_X10_78 dX10_removeRecord_14 hB rfl rfl rF_set_0 ?_
    refine j_aload_n hC dX10_removeRecord_17 rfl (jrf_ref _) ?_
    refine r_getN (x := nI (1)) hC kf_X10_78 dX10_removeRecord_18 rfl (rfl) ?_
    refine n_if_eq (tgt := 26) hC dX10_removeRecord_21 (by decide) (by omega) (fun c2 => ?_) (fun c2 => ?_)
    · exact absurd c2 (by decide)
    · refine j_iconst (v := nI 0) hC dX10_removeRecord_24 (by decide) ?_
      have e9 : opRemove r (S, P, V, b, e, u) = (1, nI (0), (S, P, V, b, e, u)) := rem_1 (by assumption)
      exact j_iret hC9 rfl rfl dX10_removeRecord_25 ⟨(rs R 0 (nI (1))), ro_ans e9 (rfl) (hi), rfl⟩
  · refine j_iconst (v := nI 0) hC dX10_removeRecord_9 (by decide) ?_
    refine j_goto (tgt := 14) hC dX10_removeRecord_10 (by decide) ?_
    refine r_put hC kp_X10_78 dX10_removeRecord_14 hB rfl rfl rF_set_0 ?_
    refine j_aload_n hC dX10_removeRecord_17 rfl (jrf_ref _) ?_
    refine r_getN (x := nI (0)) hC kf_X10_78 dX10_removeRecord_18 rfl (rfl) ?_
    refine n_if_eq (tgt := 26) hC dX10_removeRecord_21 (by decide) (by omega) (fun c3 => ?_) (fun c3 => ?_)
    · obtain ⟨r9, hr9, rfl⟩ := jin_of (by assumption : jin r (sRecs S).length = true) (by omega)
      refine j_aload_n hC dX10_removeRecord_26 rfl (jrf_ref _) ?_
      refine r_cv0 hC kv_X10_99 dX10_removeRecord_27 (m_X10_keeps (R := (rs R 0 (nI (0)))) (n := P.length) hP8 (ri_ch hi)) hB rfl (by decide) (Nat.le_of_ble_eq_true rfl) ?_
      have hi2 := ri_keep (T := (S, P, V, b, e, u)) (R := (rs R 0 (nI (0)))) hi
      have hp2 : rPre (keepR (rs R 0 (nI (0))) P.length) S := ri_pre hi2
      refine j_iload_n hC dX10_removeRecord_30 rfl ?_
      refine j_istore_n2 hC dX10_removeRecord_31 (by decide) rfl ?_
      suffices K : ∀ (n9 : Nat) (k : Nat), (sRecs S).length - k < n9 → (r9 ≤ k) → (k ≤ (sRecs S).length - 1) → J C (rM o M0 (rA (keepR (rs R 0 (nI (0))) P.length) 1 (delA ((keepR (rs R 0 (nI (0))) P.length).2 1) r9 k))) 0 0 32 [some (.ref o), some (.int (nI (r9))), some (.int (nI (k)))] [] from j_R (by rw [delA_0]; exact rA_self.symm) (K _ (r9) (Nat.lt_succ_self _) (Nat.le_refl _) (by omega))
      intro n9
      induction n9 with
      | zero => intro k hm; omega
      | succ n9 ih =>
        intro k hm hk1 hk
        refine j_iload_n hC dX10_removeRecord_32 rfl ?_
        refine j_aload_n hC dX10_removeRecord_33 rfl (jrf_ref _) ?_
        refine r_get hC kf_X10_9 dX10_removeRecord_34 rfl ?_
        refine j_iconst (v := nI 0) hC dX10_removeRecord_37 (by decide) ?_
        refine r_aldN (k := 1) (j := 0) (x := nI ((sRecs S).length)) hC dX10_removeRecord_38 (c := 1) (n := 14790) (by decide) rfl rfl (by omega) (by decide) ((congrFun rA_at 0).trans ((if_neg (by omega)).trans (rp_many hp2))) ?_
        refine j_iconst (v := nI 1) hC dX10_removeRecord_39 (by decide) ?_
        refine n_isub hC dX10_removeRecord_40 (by omega) ?_
        refine n_icmp_ge (tgt := 58) hC dX10_removeRecord_41 (by decide) (by omega) (by omega) (fun c4 => ?_) (fun c4 => ?_)
        · refine j_aload_n hC dX10_removeRecord_58 rfl (jrf_ref _) ?_
          refine r_get hC kf_X10_9 dX10_removeRecord_59 rfl ?_
          refine j_iconst (v := nI 0) hC dX10_removeRecord_62 (by decide) ?_
          refine j_dup2_11 hC dX10_removeRecord_63 rfl rfl ?_
          refine r_aldN (k := 1) (j := 0) (x := nI ((sRecs S).length)) hC dX10_removeRecord_64 (c := 1) (n := 14790) (by decide) rfl rfl (by omega) (by decide) ((congrFun rA_at 0).trans ((if_neg (by omega)).trans (rp_many hp2))) ?_
          refine j_iconst (v := nI 1) hC dX10_removeRecord_65 (by decide) ?_
          refine n_isub hC dX10_removeRecord_66 (by omega) ?_
          refine r_ast (k := 1) (j := 0) hC dX10_removeRecord_67 (c := 1) (n := 14790) (by decide) (fun _ => rfl) (rO_k1) hB rfl (by omega) (by decide) ?_
          refine j_aload_n hC dX10_removeRecord_68 rfl (jrf_ref _) ?_
          refine r_get hC kf_X10_9 dX10_removeRecord_69 rfl ?_
          refine j_iconst (v := nI 0) hC dX10_removeRecord_72 (by decide) ?_
          refine r_aldN (k := 1) (j := 0) (x := nI ((sRecs S).length - 1)) hC dX10_removeRecord_73 (c := 1) (n := 14790) (by decide) rfl rfl (by omega) (by decide) (ra_s) ?_
          have e9 : opRemove (nI r9) (S, P, V, b, e, u) = (0, nI ((sRecs S).length - 1), chg (S, P, V, b, e, u) (withRecs S ((sRecs S).eraseIdx r9))) := rem_0 hr9 h20
          exact j_iret hC9 rfl rfl dX10_removeRecord_74 ⟨(ra (rA (keepR (rs R 0 (nI (0))) P.length) 1 (delA ((keepR (rs R 0 (nI (0))) P.length).2 1) r9 k)) 1 (0) (nI (((sRecs S).length) - (1)))), ro_ans e9 (rfl) (by rw [rA_ra, show k = (sRecs S).length - 1 by omega]; exact ri_set hi2 (fun j hj => del_hi (by omega) hj) (del_row (ri_ok hi2).1 (ri_row hi2) hr9) (setG_recs (ri_ok hi2) (by rw [List.length_eraseIdx]; split <;> omega) (fun q hq => setG_all (ri_ok hi2) q (List.mem_of_mem_eraseIdx hq)))), rfl⟩
        · refine j_aload_n hC dX10_removeRecord_44 rfl (jrf_ref _) ?_
          refine j_iload_n hC dX10_removeRecord_45 rfl ?_
          refine j_iconst (v := nI 1) hC dX10_removeRecord_46 (by decide) ?_
          refine n_iadd hC dX10_removeRecord_47 ?_
          refine j_iload_n hC dX10_removeRecord_48 rfl ?_
          refine r_cv2 hC kv_X10_106 dX10_removeRecord_49 (m_X10_moves (R := (rA (keepR (rs R 0 (nI (0))) P.length) 1 (delA ((keepR (rs R 0 (nI (0))) P.length).2 1) r9 k))) (f := k + 1) (t := k) (by omega) (by omega)) hB rfl (by decide) (Nat.le_of_ble_eq_true rfl) ?_
          refine j_iinc_2 (v := nI (k + 1)) hC dX10_removeRecord_52 (nI_add _ _) (by decide) rfl ?_
          refine j_goto (tgt := 32) hC dX10_removeRecord_55 (by decide) ?_
          exact j_R (rA_rA.trans (rA_eq (by rw [rA_at]; exact delA_succ (by omega)))) (ih (k + 1) (by omega) (by omega) (by omega))
    · exact absurd c3 (by decide)
theorem in_m1 {i : Int32} {n : Nat} (hn : n < 2 ^ 31) : (zI (-1) ≤ i ∧ i ≤ zI ((n : Int) - 1)) ↔ (i = -1 ∨ jin i n = true) := by
  rw [jin_iff, vp_in_iff, Int32.le_iff_toInt_le, Int32.le_iff_toInt_le, zI_toInt ⟨by omega, by omega⟩, zI_toInt ⟨by omega, by omega⟩]
  constructor
  · intro h
    by_cases h1 : i.toInt = -1
    · exact Or.inl (Int32.toInt_inj.mp (h1.trans (by decide)))
    · exact Or.inr ⟨by omega, by omega⟩
  · intro h
    rcases h with h | h
    · subst h
      have e : (-1 : Int32).toInt = -1 := by decide
      rw [e]
      omega
    · omega
section OC
variable {T : aSt} {r f i : Int32} {a k : Nat}
theorem fld_1 (h : ¬ (jin r (sRecs (tSet T)).length = true ∧ jin f 5 = true)) : opFieldAt r f i T = (1, nI 0, T) := if_neg h
theorem fld_c (ha : a < (sRecs (tSet T)).length) (h20 : (sRecs (tSet T)).length ≤ 20) (hk : k < 5) : opFieldAt (nI a) (nI k) i T = if i = -1 then (0, nI ((sAt (tSet T) a).2.2 k).length, T) else if jin i ((sAt (tSet T) a).2.2 k).length = true then (0, nI (((sAt (tSet T) a).2.2 k).getD (toN i) 0), T) else (2, 0, T) := by
  rw [opFieldAt, if_pos ⟨by rw [jin_nI (by omega)]; exact decide_eq_true ha, by rw [jin_nI (by omega)]; exact decide_eq_true hk⟩, toN_nI (by omega), toN_nI (by omega)]
theorem fld_2 (ha : a < (sRecs (tSet T)).length) (h20 : (sRecs (tSet T)).length ≤ 20) (hk : k < 5) (h : ¬ (i = -1 ∨ jin i ((sAt (tSet T) a).2.2 k).length = true)) : opFieldAt (nI a) (nI k) i T = (2, nI 0, T) := by
  rw [fld_c ha h20 hk, if_neg (fun e => h (Or.inl e)), if_neg (fun e => h (Or.inr e))]
  rfl
theorem fld_n (ha : a < (sRecs (tSet T)).length) (h20 : (sRecs (tSet T)).length ≤ 20) (hk : k < 5) (h : i = -1 ∨ jin i ((sAt (tSet T) a).2.2 k).length = true) (h2 : i < 0) : opFieldAt (nI a) (nI k) i T = (0, nI ((sAt (tSet T) a).2.2 k).length, T) := by
  rw [fld_c ha h20 hk, if_pos]
  refine h.elim id (fun e => ?_)
  rw [jin_iff] at e
  exact absurd (Or.inl h2) e
theorem fld_i {j : Nat} (ha : a < (sRecs (tSet T)).length) (h20 : (sRecs (tSet T)).length ≤ 20) (hk : k < 5) (h : j < ((sAt (tSet T) a).2.2 k).length) (hj : j < 2 ^ 31) : opFieldAt (nI a) (nI k) (nI j) T = (0, nI (((sAt (tSet T) a).2.2 k).getD j 0), T) := by
  rw [fld_c ha h20 hk, if_neg, if_pos (by rw [jin_nI hj]; exact decide_eq_true h), toN_nI hj]
  intro e
  have e2 := congrArg Int32.toInt e
  rw [nI_toInt hj] at e2
  have e3 : (-1 : Int32).toInt = -1 := by decide
  omega
end OC
set_option maxHeartbeats 4000000 in
set_option maxRecDepth 100000 in
theorem o_X10_field {r : Int32} {f : Int32} {i : Int32} : ROp jX10_field 2 [.int r, .int f, .int i] (opFieldAt r f i) := by
  intro R T hi
  obtain ⟨S, P, V, b, e, u⟩ := T
  intro G o M0 hs hBo
  refine jMet_of [some (.ref o), some (.int r), some (.int f), some (.int i)] (by decide) rfl (Nat.le_of_ble_eq_true rfl) rfl hs ?_
  intro C hC9 hG
  have hC := hC9.z
  have hB : jB C ≤ o := by rw [jB, hG]; exact hBo
  have hp : rPre R S := ri_pre hi
  have h20 := rp_n20 hp
  have hP8 : P.length ≤ 8 := ri_pn hi
  have hb120 : b.length ≤ 120 := ri_bn hi
  refine j_aload_n hC dX10_field_0 rfl (jrf_ref _) ?_
  refine j_aload_n hC dX10_field_1 rfl (jrf_ref _) ?_
  refine j_iload_n hC dX10_field_2 rfl ?_
  refine r_ci1 hC kv_X10_102 dX10_field_3 (m_X10_isRecord hp) hB rfl (by decide) (Nat.le_of_ble_eq_true rfl) ?_
  refine jb_if_eq (tgt := 18) hC dX10_field_6 (by decide) (fun c1 => ?_) (fun c1 => ?_)
  · refine j_iconst (v := nI 1) hC dX10_field_18 (by decide) ?_
    refine j_goto (tgt := 43) hC dX10_field_19 (by decide) ?_
    refine r_put hC kp_X10_78 dX10_field_43 hB rfl rfl rF_set_0 ?_
    refine j_aload_n hC dX10_field_46 rfl (jrf_ref _) ?_
    refine r_getN (x := nI (1)) hC kf_X10_78 dX10_field_47 rfl (rfl) ?_
    refine n_if_eq (tgt := 57) hC dX10_field_50 (by decide) (by omega) (fun c2 => ?_) (fun c2 => ?_)
    · exact absurd c2 (by decide)
    · refine j_iconst (v := nI 0) hC dX10_field_53 (by decide) ?_
      refine j_goto (tgt := 77) hC dX10_field_54 (by decide) ?_
      have e9 : opFieldAt r f i (S, P, V, b, e, u) = (1, nI (0), (S, P, V, b, e, u)) := fld_1 (fun h => by first | exact absurd h.1 (by assumption) | exact absurd h.2 (by assumption))
      exact j_iret hC9 rfl rfl dX10_field_77 ⟨(rs R 0 (nI (1))), ro_ans e9 (rfl) (hi), rfl⟩
  · refine j_iload_n hC dX10_field_9 rfl ?_
    refine j_iconst (v := nI 0) hC dX10_field_10 (by decide) ?_
    refine j_iconst (v := nI 4) hC dX10_field_11 (by decide) ?_
    refine s_ci3 hC ks_X10_88 dX10_field_12 (m_X10_in) rfl (by decide) (Nat.le_of_ble_eq_true rfl) ?_
    refine j_top (jb_in9 (by decide)) ?_
    refine jb_if_ne (tgt := 22) hC dX10_field_15 (by decide) (fun c3 => ?_) (fun c3 => ?_)
    · obtain ⟨r9, hr9, rfl⟩ := jin_of (by assumption : jin r (sRecs S).length = true) (by omega)
      obtain ⟨f9, hf9, rfl⟩ := jin_of (by assumption : jin f 5 = true) (by decide)
      have hl9 := rp_l12 hp hr9 hf9
      refine j_iload_n hC dX10_field_22 rfl ?_
      refine j_iconst (v := zI (-1)) hC dX10_field_23 (by decide) ?_
      refine j_aload_n hC dX10_field_24 rfl (jrf_ref _) ?_
      refine j_iload_n hC dX10_field_25 rfl ?_
      refine j_iload_n hC dX10_field_26 rfl ?_
      refine r_ci2 hC kv_X10_109 dX10_field_27 (m_X10_longOf hp (by assumption) (by omega)) hB rfl (by decide) (Nat.le_of_ble_eq_true rfl) ?_
      refine j_iconst (v := nI 1) hC dX10_field_30 (by decide) ?_
      refine z_isub (a := ((((sAt S (r9)).2.2 (f9)).length : Nat) : Int)) (b := ((1 : Nat) : Int)) hC dX10_field_31 ?_
      refine s_ci3 hC ks_X10_88 dX10_field_32 (m_X10_in) rfl (by decide) (Nat.le_of_ble_eq_true rfl) ?_
      refine jb_if_eq (tgt := 42) hC dX10_field_35 (by decide) (fun c4 => ?_) (fun c4 => ?_)
      · refine j_iconst (v := nI 2) hC dX10_field_42 (by decide) ?_
        refine r_put hC kp_X10_78 dX10_field_43 hB rfl rfl rF_set_0 ?_
        refine j_aload_n hC dX10_field_46 rfl (jrf_ref _) ?_
        refine r_getN (x := nI (2)) hC kf_X10_78 dX10_field_47 rfl (rfl) ?_
        refine n_if_eq (tgt := 57) hC dX10_field_50 (by decide) (by omega) (fun c5 => ?_) (fun c5 => ?_)
        · exact absurd c5 (by decide)
        · refine j_iconst (v := nI 0) hC dX10_field_53 (by decide) ?_
          refine j_goto (tgt := 77) hC dX10_field_54 (by decide) ?_
          have e9 : opFieldAt (nI r9) (nI f9) i (S, P, V, b, e, u) = (2, nI (0), (S, P, V, b, e, u)) := fld_2 hr9 h20 hf9 (fun h => absurd ((in_m1 (n := ((sAt S r9).2.2 f9).length) (by omega)).mpr h) (by assumption))
          exact j_iret hC9 rfl rfl dX10_field_77 ⟨(rs R 0 (nI (2))), ro_ans e9 (rfl) (hi), rfl⟩
      · refine j_iconst (v := nI 0) hC dX10_field_38 (by decide) ?_
        refine j_goto (tgt := 43) hC dX10_field_39 (by decide) ?_
        refine r_put hC kp_X10_78 dX10_field_43 hB rfl rfl rF_set_0 ?_
        refine j_aload_n hC dX10_field_46 rfl (jrf_ref _) ?_
        refine r_getN (x := nI (0)) hC kf_X10_78 dX10_field_47 rfl (rfl) ?_
        refine n_if_eq (tgt := 57) hC dX10_field_50 (by decide) (by omega) (fun c6 => ?_) (fun c6 => ?_)
        · refine j_iload_n hC dX10_field_57 rfl ?_
          refine j_if_ge (tgt := 70) hC dX10_field_58 (by decide) (fun c7 => ?_) (fun c7 => ?_)
          · have hj8 : jin i ((sAt S (r9)).2.2 (f9)).length = true := ((in_m1 (by omega)).mp (by assumption)).elim (fun e => absurd (e ▸ (by assumption : (0 : Int32) ≤ i)) (by decide)) id
            obtain ⟨j9, hj9, rfl⟩ := jin_of hj8 (by omega)
            refine j_aload_n hC dX10_field_70 rfl (jrf_ref _) ?_
            refine j_iload_n hC dX10_field_71 rfl ?_
            refine j_iload_n hC dX10_field_72 rfl ?_
            refine j_iload_n hC dX10_field_73 rfl ?_
            refine r_ci3 hC kv_X10_113 dX10_field_74 (m_X10_charOf hp (by assumption) (by omega) (by omega)) hB rfl (by decide) (Nat.le_of_ble_eq_true rfl) ?_
            have e9 : opFieldAt (nI r9) (nI f9) (nI j9) (S, P, V, b, e, u) = (0, nI (((sAt S (r9)).2.2 (f9)).getD (j9) 0), (S, P, V, b, e, u)) := fld_i hr9 h20 hf9 hj9 (by omega)
            exact j_iret hC9 rfl rfl dX10_field_77 ⟨(rs R 0 (nI (0))), ro_ans e9 (rfl) (hi), rfl⟩
          · refine j_aload_n hC dX10_field_61 rfl (jrf_ref _) ?_
            refine j_iload_n hC dX10_field_62 rfl ?_
            refine j_iload_n hC dX10_field_63 rfl ?_
            refine r_ci2 hC kv_X10_109 dX10_field_64 (m_X10_longOf hp (by assumption) (by omega)) hB rfl (by decide) (Nat.le_of_ble_eq_true rfl) ?_
            refine j_goto (tgt := 77) hC dX10_field_67 (by decide) ?_
            have e9 : opFieldAt (nI r9) (nI f9) i (S, P, V, b, e, u) = (0, nI (((sAt S (r9)).2.2 (f9)).length), (S, P, V, b, e, u)) := fld_n hr9 h20 hf9 ((in_m1 (n := ((sAt S r9).2.2 f9).length) (by omega)).mp (by assumption)) (Int32.not_le.mp (by assumption))
            exact j_iret hC9 rfl rfl dX10_field_77 ⟨(rs R 0 (nI (0))), ro_ans e9 (rfl) (hi), rfl⟩
        · exact absurd c6 (by decide)
    · refine j_iconst (v := nI 1) hC dX10_field_18 (by decide) ?_
      refine j_goto (tgt := 43) hC dX10_field_19 (by decide) ?_
      refine r_put hC kp_X10_78 dX10_field_43 hB rfl rfl rF_set_0 ?_
      refine j_aload_n hC dX10_field_46 rfl (jrf_ref _) ?_
      refine r_getN (x := nI (1)) hC kf_X10_78 dX10_field_47 rfl (rfl) ?_
      refine n_if_eq (tgt := 57) hC dX10_field_50 (by decide) (by omega) (fun c8 => ?_) (fun c8 => ?_)
      · exact absurd c8 (by decide)
      · refine j_iconst (v := nI 0) hC dX10_field_53 (by decide) ?_
        refine j_goto (tgt := 77) hC dX10_field_54 (by decide) ?_
        have e9 : opFieldAt r f i (S, P, V, b, e, u) = (1, nI (0), (S, P, V, b, e, u)) := fld_1 (fun h => by first | exact absurd h.1 (by assumption) | exact absurd h.2 (by assumption))
        exact j_iret hC9 rfl rfl dX10_field_77 ⟨(rs R 0 (nI (1))), ro_ans e9 (rfl) (hi), rfl⟩
theorem or_pow {m g : Nat} (hg : g < 5) (hm : m < 2 ^ g) : nI m ||| (nI 1 <<< (nI g &&& 31)) = nI (m + 2 ^ g) := by
  have h : ∀ g, g < 5 → ∀ m, m < 32 → m < 2 ^ g → nI m ||| (nI 1 <<< (nI g &&& 31)) = nI (m + 2 ^ g) := by decide +kernel
  refine h g hg m ?_ hm
  have : 2 ^ g ≤ 2 ^ 5 := Nat.pow_le_pow_right (by decide) (by omega)
  omega
theorem or_0 {m : Nat} (hm : m < 32) : nI m ||| nI 0 = nI m := by
  have h : ∀ m, m < 32 → nI m ||| nI 0 = nI m := by decide +kernel
  exact h m hm
def mskF (q : aRec) (f : Nat) : Nat := if 0 < (q.2.2 f).length then 2 ^ f else 0
theorem msk_lt {q : aRec} : ∀ g, sumTo (mskF q) g < 2 ^ g
  | 0 => by show (0 : Nat) < 2 ^ 0; decide
  | g + 1 => by
    have := msk_lt (q := q) g
    simp only [sumTo, mskF]
    rw [Nat.pow_succ]
    split <;> omega
theorem msk_32 {q : aRec} {g : Nat} (h : g ≤ 5) : sumTo (mskF q) g < 32 := Nat.lt_of_lt_of_le (msk_lt g) (Nat.pow_le_pow_right (by decide) h)
theorem or_s1 {q : aRec} {k : Nat} (hk : k < 5) (h : 0 < (q.2.2 k).length) : nI (sumTo (mskF q) k) ||| (nI 1 <<< (nI k &&& 31)) = nI (sumTo (mskF q) (k + 1)) := by
  rw [or_pow hk (msk_lt k), sumTo, mskF, if_pos h]
theorem or_s0 {q : aRec} {k : Nat} (hk : k < 5) (h : (q.2.2 k).length ≤ 0) : nI (sumTo (mskF q) k) ||| nI 0 = nI (sumTo (mskF q) (k + 1)) := by
  rw [or_0 (msk_32 (by omega)), sumTo, mskF, if_neg (by omega)]
  rfl
section OD
variable {T : aSt} {r f i : Int32} {a k : Nat}
theorem rcd_1 (h : ¬ jin r (sRecs (tSet T)).length = true) : opRecord r f T = (1, nI 0, T) := if_neg h
theorem rcd_2 (h : jin r (sRecs (tSet T)).length = true) (h2 : ¬ jin f 4 = true) : opRecord r f T = (2, nI 0, T) := (if_pos h).trans (if_neg h2)
theorem rcd_0 (ha : a < (sRecs (tSet T)).length) (h20 : (sRecs (tSet T)).length ≤ 20) (hk : k < 4) {x : Int32} (hx : (if k = 0 then nI (sAt (tSet T) a).1 else if k = 1 then nI (sAt (tSet T) a).2.1 else if k = 2 then nI (maskA (sAt (tSet T) a)) else nI (linesA (tSet T) (sAt (tSet T) a))) = x) : opRecord (nI a) (nI k) T = (0, x, T) := by
  rw [opRecord, if_pos (by rw [jin_nI (by omega)]; exact decide_eq_true ha), if_pos (by rw [jin_nI (by omega)]; exact decide_eq_true hk), toN_nI (by omega), toN_nI (by omega), hx]
end OD
set_option maxHeartbeats 4000000 in
set_option maxRecDepth 100000 in
theorem o_X10_record {r : Int32} {f : Int32} : ROp jX10_record 5 [.int r, .int f] (opRecord r f) := by
  intro R T hi
  obtain ⟨S, P, V, b, e, u⟩ := T
  intro G o M0 hs hBo
  refine jMet_of [some (.ref o), some (.int r), some (.int f), none, none] (by decide) rfl (Nat.le_of_ble_eq_true rfl) rfl hs ?_
  intro C hC9 hG
  have hC := hC9.z
  have hB : jB C ≤ o := by rw [jB, hG]; exact hBo
  have hp : rPre R S := ri_pre hi
  have h20 := rp_n20 hp
  have hP8 : P.length ≤ 8 := ri_pn hi
  have hb120 : b.length ≤ 120 := ri_bn hi
  refine j_aload_n hC dX10_record_0 rfl (jrf_ref _) ?_
  refine j_aload_n hC dX10_record_1 rfl (jrf_ref _) ?_
  refine j_iload_n hC dX10_record_2 rfl ?_
  refine r_ci1 hC kv_X10_102 dX10_record_3 (m_X10_isRecord hp) hB rfl (by decide) (Nat.le_of_ble_eq_true rfl) ?_
  refine jb_if_ne (tgt := 13) hC dX10_record_6 (by decide) (fun c1 => ?_) (fun c1 => ?_)
  · refine j_iload_n hC dX10_record_13 rfl ?_
    refine j_iconst (v := nI 0) hC dX10_record_14 (by decide) ?_
    refine j_iconst (v := nI 3) hC dX10_record_15 (by decide) ?_
    refine s_ci3 hC ks_X10_88 dX10_record_16 (m_X10_in) rfl (by decide) (Nat.le_of_ble_eq_true rfl) ?_
    refine j_top (jb_in9 (by decide)) ?_
    refine jb_if_eq (tgt := 26) hC dX10_record_19 (by decide) (fun c2 => ?_) (fun c2 => ?_)
    · refine j_iconst (v := nI 2) hC dX10_record_26 (by decide) ?_
      refine r_put hC kp_X10_78 dX10_record_27 hB rfl rfl rF_set_0 ?_
      refine j_aload_n hC dX10_record_30 rfl (jrf_ref _) ?_
      refine r_getN (x := nI (2)) hC kf_X10_78 dX10_record_31 rfl (rfl) ?_
      refine n_if_eq (tgt := 39) hC dX10_record_34 (by decide) (by omega) (fun c3 => ?_) (fun c3 => ?_)
      · exact absurd c3 (by decide)
      · refine j_iconst (v := nI 0) hC dX10_record_37 (by decide) ?_
        have e9 : opRecord r f (S, P, V, b, e, u) = (2, nI (0), (S, P, V, b, e, u)) := rcd_2 (by assumption) (by assumption)
        exact j_iret hC9 rfl rfl dX10_record_38 ⟨(rs R 0 (nI (2))), ro_ans e9 (rfl) (hi), rfl⟩
    · refine j_iconst (v := nI 0) hC dX10_record_22 (by decide) ?_
      refine j_goto (tgt := 27) hC dX10_record_23 (by decide) ?_
      refine r_put hC kp_X10_78 dX10_record_27 hB rfl rfl rF_set_0 ?_
      refine j_aload_n hC dX10_record_30 rfl (jrf_ref _) ?_
      refine r_getN (x := nI (0)) hC kf_X10_78 dX10_record_31 rfl (rfl) ?_
      refine n_if_eq (tgt := 39) hC dX10_record_34 (by decide) (by omega) (fun c4 => ?_) (fun c4 => ?_)
      · obtain ⟨r9, hr9, rfl⟩ := jin_of (by assumption : jin r (sRecs S).length = true) (by omega)
        obtain ⟨f9, hf9, rfl⟩ := jin_of (by assumption : jin f 4 = true) (by decide)
        have hl9 := fun f hf => rp_l12 (f := f) hp hr9 hf
        refine j_iconst (v := nI 0) hC dX10_record_39 (by decide) ?_
        refine j_istore_n3 hC dX10_record_40 (by decide) rfl ?_
        refine j_iconst (v := nI 0) hC dX10_record_41 (by decide) ?_
        refine j_istore_4 hC dX10_record_42 (by decide) rfl ?_
        suffices K : ∀ (n9 : Nat) (k : Nat), 5 - k < n9 → (k ≤ 5) → J C (rM o M0 (rs R 0 (nI 0))) 0 0 44 [some (.ref o), some (.int (nI (r9))), some (.int (nI (f9))), some (.int (nI (sumTo (mskF (sAt S r9)) k))), some (.int (nI (k)))] [] from j_R (rfl) (K _ (0) (Nat.lt_succ_self _) (by omega))
        intro n9
        induction n9 with
        | zero => intro k hm; omega
        | succ n9 ih =>
          intro k hm hk
          refine j_iload hC dX10_record_44 rfl ?_
          refine j_iconst (v := nI 5) hC dX10_record_46 (by decide) ?_
          refine n_icmp_ge (tgt := 77) hC dX10_record_47 (by decide) (by omega) (by omega) (fun c5 => ?_) (fun c5 => ?_)
          · refine j_iload_n hC dX10_record_77 rfl ?_
            refine n_if_ne (tgt := 89) hC dX10_record_78 (by decide) (by omega) (fun c6 => ?_) (fun c6 => ?_)
            · refine j_iload_n hC dX10_record_89 rfl ?_
              refine j_iconst (v := nI 1) hC dX10_record_90 (by decide) ?_
              refine n_icmp_ne (tgt := 102) hC dX10_record_91 (by decide) (by omega) (by omega) (fun c7 => ?_) (fun c7 => ?_)
              · refine j_iload_n hC dX10_record_102 rfl ?_
                refine j_iconst (v := nI 2) hC dX10_record_103 (by decide) ?_
                refine n_icmp_ne (tgt := 111) hC dX10_record_104 (by decide) (by omega) (by omega) (fun c8 => ?_) (fun c8 => ?_)
                · refine j_aload_n hC dX10_record_111 rfl (jrf_ref _) ?_
                  refine j_iload_n hC dX10_record_112 rfl ?_
                  refine r_ci1 hC kv_X10_144 dX10_record_113 (m_X10_lines hp (by assumption)) hB rfl (by decide) (Nat.le_of_ble_eq_true rfl) ?_
                  have e9 : opRecord (nI r9) (nI f9) (S, P, V, b, e, u) = (0, nI (linesA S (sAt S (r9))), (S, P, V, b, e, u)) := rcd_0 hr9 h20 hf9 (by first | rw [if_pos (by assumption)] | rw [if_neg (by assumption), if_pos (by assumption)] | (rw [if_neg (by assumption), if_neg (by assumption), if_pos (by assumption), show maskA (sAt S r9) = sumTo (mskF (sAt S r9)) k by rw [show k = 5 by omega]; rfl]) | rw [if_neg (by assumption), if_neg (by assumption), if_neg (by assumption)])
                  exact j_iret hC9 rfl rfl dX10_record_116 ⟨(rs R 0 (nI 0)), ro_ans e9 (rfl) (hi), rfl⟩
                · refine j_iload_n hC dX10_record_107 rfl ?_
                  refine j_goto (tgt := 116) hC dX10_record_108 (by decide) ?_
                  have e9 : opRecord (nI r9) (nI f9) (S, P, V, b, e, u) = (0, nI (sumTo (mskF (sAt S r9)) k), (S, P, V, b, e, u)) := rcd_0 hr9 h20 hf9 (by first | rw [if_pos (by assumption)] | rw [if_neg (by assumption), if_pos (by assumption)] | (rw [if_neg (by assumption), if_neg (by assumption), if_pos (by assumption), show maskA (sAt S r9) = sumTo (mskF (sAt S r9)) k by rw [show k = 5 by omega]; rfl]) | rw [if_neg (by assumption), if_neg (by assumption), if_neg (by assumption)])
                  exact j_iret hC9 rfl rfl dX10_record_116 ⟨(rs R 0 (nI 0)), ro_ans e9 (rfl) (hi), rfl⟩
              · refine j_aload_n hC dX10_record_94 rfl (jrf_ref _) ?_
                refine j_iload_n hC dX10_record_95 rfl ?_
                refine r_ci1 hC kv_X10_141 dX10_record_96 (m_X10_countOf hp (by assumption)) hB rfl (by decide) (Nat.le_of_ble_eq_true rfl) ?_
                refine j_goto (tgt := 116) hC dX10_record_99 (by decide) ?_
                have e9 : opRecord (nI r9) (nI f9) (S, P, V, b, e, u) = (0, nI ((sAt S (r9)).2.1), (S, P, V, b, e, u)) := rcd_0 hr9 h20 hf9 (by first | rw [if_pos (by assumption)] | rw [if_neg (by assumption), if_pos (by assumption)] | (rw [if_neg (by assumption), if_neg (by assumption), if_pos (by assumption), show maskA (sAt S r9) = sumTo (mskF (sAt S r9)) k by rw [show k = 5 by omega]; rfl]) | rw [if_neg (by assumption), if_neg (by assumption), if_neg (by assumption)])
                exact j_iret hC9 rfl rfl dX10_record_116 ⟨(rs R 0 (nI 0)), ro_ans e9 (rfl) (hi), rfl⟩
            · refine j_aload_n hC dX10_record_81 rfl (jrf_ref _) ?_
              refine j_iload_n hC dX10_record_82 rfl ?_
              refine r_ci1 hC kv_X10_92 dX10_record_83 (m_X10_groupOf hp (by assumption)) hB rfl (by decide) (Nat.le_of_ble_eq_true rfl) ?_
              refine j_goto (tgt := 116) hC dX10_record_86 (by decide) ?_
              have e9 : opRecord (nI r9) (nI f9) (S, P, V, b, e, u) = (0, nI ((sAt S (r9)).1), (S, P, V, b, e, u)) := rcd_0 hr9 h20 hf9 (by first | rw [if_pos (by assumption)] | rw [if_neg (by assumption), if_pos (by assumption)] | (rw [if_neg (by assumption), if_neg (by assumption), if_pos (by assumption), show maskA (sAt S r9) = sumTo (mskF (sAt S r9)) k by rw [show k = 5 by omega]; rfl]) | rw [if_neg (by assumption), if_neg (by assumption), if_neg (by assumption)])
              exact j_iret hC9 rfl rfl dX10_record_116 ⟨(rs R 0 (nI 0)), ro_ans e9 (rfl) (hi), rfl⟩
          · have hl8 := hl9 k (by omega)
            refine j_iload_n hC dX10_record_50 rfl ?_
            refine j_aload_n hC dX10_record_51 rfl (jrf_ref _) ?_
            refine j_iload_n hC dX10_record_52 rfl ?_
            refine j_iload hC dX10_record_53 rfl ?_
            refine r_ci2 hC kv_X10_109 dX10_record_55 (m_X10_longOf hp (by assumption) (by omega)) hB rfl (by decide) (Nat.le_of_ble_eq_true rfl) ?_
            refine n_if_le (tgt := 68) hC dX10_record_58 (by decide) (by omega) (fun c9 => ?_) (fun c9 => ?_)
            · refine j_iconst (v := nI 0) hC dX10_record_68 (by decide) ?_
              refine j_ior hC dX10_record_69 ?_
              refine j_top (by first | exact or_s1 (by omega) (by assumption) | exact or_s0 (by omega) (by assumption)) ?_
              refine j_istore_n3 hC dX10_record_70 (by decide) rfl ?_
              refine j_iinc_4 (v := nI (k + 1)) hC dX10_record_71 (nI_add _ _) (by decide) rfl ?_
              refine j_goto (tgt := 44) hC dX10_record_74 (by decide) ?_
              exact j_R (rfl) (ih (k + 1) (by omega) (by omega))
            · refine j_iconst (v := nI 1) hC dX10_record_61 (by decide) ?_
              refine j_iload hC dX10_record_62 rfl ?_
              refine j_ishl hC dX10_record_64 ?_
              refine j_goto (tgt := 69) hC dX10_record_65 (by decide) ?_
              refine j_ior hC dX10_record_69 ?_
              refine j_top (by first | exact or_s1 (by omega) (by assumption) | exact or_s0 (by omega) (by assumption)) ?_
              refine j_istore_n3 hC dX10_record_70 (by decide) rfl ?_
              refine j_iinc_4 (v := nI (k + 1)) hC dX10_record_71 (nI_add _ _) (by decide) rfl ?_
              refine j_goto (tgt := 44) hC dX10_record_74 (by decide) ?_
              exact j_R (rfl) (ih (k + 1) (by omega) (by omega))
      · exact absurd c4 (by decide)
  · refine j_iconst (v := nI 1) hC dX10_record_9 (by decide) ?_
    refine j_goto (tgt := 27) hC dX10_record_10 (by decide) ?_
    refine r_put hC kp_X10_78 dX10_record_27 hB rfl rfl rF_set_0 ?_
    refine j_aload_n hC dX10_record_30 rfl (jrf_ref _) ?_
    refine r_getN (x := nI (1)) hC kf_X10_78 dX10_record_31 rfl (rfl) ?_
    refine n_if_eq (tgt := 39) hC dX10_record_34 (by decide) (by omega) (fun c10 => ?_) (fun c10 => ?_)
    · exact absurd c10 (by decide)
    · refine j_iconst (v := nI 0) hC dX10_record_37 (by decide) ?_
      have e9 : opRecord r f (S, P, V, b, e, u) = (1, nI (0), (S, P, V, b, e, u)) := rcd_1 (by assumption)
      exact j_iret hC9 rfl rfl dX10_record_38 ⟨(rs R 0 (nI (1))), ro_ans e9 (rfl) (hi), rfl⟩
