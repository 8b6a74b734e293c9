/-- a record put aside, as far as k -/
def asA (D A : Nat → Int32) (r k : Nat) : Nat → Int32 := fun j => if j < k then A (139 + 67 * r + j) else D j
theorem asA_0 {D A : Nat → Int32} {r : Nat} : asA D A r 0 = D := by
  funext j
  simp only [asA]
  rw [if_neg (by omega)]
theorem asA_succ {D A : Nat → Int32} {r k : Nat} : upd (asA D A r k) k (A (139 + 67 * r + k)) = asA D A r (k + 1) := by
  funext j
  simp only [asA, upd]
  by_cases h : j = k
  · subst h
    rw [if_pos rfl, if_pos (by omega)]
  · rw [if_neg h]
    by_cases h2 : j < k
    · rw [if_pos h2, if_pos (by omega)]
    · rw [if_neg h2, if_neg (by omega)]
/-- the records ahead of r, down to k, one place behind -/
def upA (A : Nat → Int32) (k r : Nat) : Nat → Int32 := fun j => if 139 + 67 * (k + 1) ≤ j ∧ j < 139 + 67 * (r + 1) then A (j - 67) else A j
theorem upA_0 {A : Nat → Int32} {r : Nat} : upA A r r = A := by
  funext j
  simp only [upA]
  rw [if_neg (by omega)]
theorem upA_succ {A : Nat → Int32} {k r : Nat} (h1 : 0 < k) (h : k ≤ r) : blk (upA A k r) (139 + 67 * (k - 1)) (139 + 67 * k) 67 = upA A (k - 1) r := by
  funext j
  simp only [blk, upA]
  by_cases h2 : 139 + 67 * k ≤ j ∧ j < 139 + 67 * k + 67
  · rw [if_pos h2, if_neg (by omega), if_pos (by omega)]
    exact congrArg A (by omega)
  · rw [if_neg h2]
    by_cases h3 : 139 + 67 * (k + 1) ≤ j ∧ j < 139 + 67 * (r + 1)
    · rw [if_pos h3, if_pos (by omega)]
    · rw [if_neg h3, if_neg (by omega)]
/-- a row put back at b -/
def psA (A D : Nat → Int32) (b k : Nat) : Nat → Int32 := fun j => if b ≤ j ∧ j < b + k then D (j - b) else A j
theorem psA_0 {A D : Nat → Int32} {b : Nat} : psA A D b 0 = A := by
  funext j
  simp only [psA]
  rw [if_neg (by omega)]
theorem psA_succ {A D : Nat → Int32} {b k : Nat} : upd (psA A D b k) (b + k) (D k) = psA A D b (k + 1) := by
  funext j
  simp only [psA, upd]
  by_cases h : j = b + k
  · subst h
    rw [if_pos rfl, if_pos (by omega), Nat.add_sub_cancel_left]
  · rw [if_neg h]
    by_cases h2 : b ≤ j ∧ j < b + k
    · rw [if_pos h2, if_pos (by omega)]
    · rw [if_neg h2, if_neg (by omega)]
def movA (A D : Nat → Int32) (r t : Nat) : Nat → Int32 := psA (upA (delA A r (max r t)) (min r t) r) (asA D A r 67) (139 + 67 * t) 67
theorem moveL_len {L : List aRec} {r t : Nat} (hr : r < L.length) (ht : t < L.length) : (moveL L r t).length = L.length := by
  rw [moveL, List.getElem?_eq_getElem hr]
  show ((L.eraseIdx r).insertIdx t L[r]).length = L.length
  rw [List.length_insertIdx, List.length_eraseIdx, if_pos hr]
  split <;> omega
theorem moveL_at {L : List aRec} {r t q : Nat} (hr : r < L.length) (ht : t < L.length) (hq : q < L.length) : (moveL L r t).getD q rec0 = if q = t then L.getD r rec0 else if r ≤ q ∧ q < t then L.getD (q + 1) rec0 else if t < q ∧ q ≤ r then L.getD (q - 1) rec0 else L.getD q rec0 := by
  rw [moveL, List.getElem?_eq_getElem hr]
  show ((L.eraseIdx r).insertIdx t L[r]).getD q rec0 = _
  rw [List.getD_eq_getElem?_getD, List.getElem?_insertIdx]
  have hl : (L.eraseIdx r).length = L.length - 1 := by rw [List.length_eraseIdx, if_pos hr]
  by_cases h1 : q < t
  · rw [if_pos h1, if_neg (show ¬ q = t by omega), ← List.getD_eq_getElem?_getD, getD_erase]
    by_cases h2 : q < r
    · rw [if_pos h2, if_neg (by omega), if_neg (by omega)]
    · rw [if_neg h2, if_pos (by omega)]
  · rw [if_neg h1]
    by_cases h2 : q = t
    · rw [if_pos h2, if_pos h2, if_pos (by omega)]
      rw [List.getD_eq_getElem?_getD, List.getElem?_eq_getElem hr]
    · rw [if_neg h2, if_neg h2, ← List.getD_eq_getElem?_getD, getD_erase]
      by_cases h3 : q - 1 < r
      · rw [if_pos h3, if_neg (by omega), if_pos (by omega)]
      · rw [if_neg h3, if_neg (by omega), if_neg (by omega), show q - 1 + 1 = q by omega]
theorem moveL_mem {L : List aRec} {r t : Nat} (hr : r < L.length) (ht : t < L.length) : ∀ x ∈ moveL L r t, x ∈ L := by
  intro x hx
  obtain ⟨q, hq, rfl⟩ := List.getElem_of_mem hx
  rw [moveL_len hr ht] at hq
  have e := moveL_at hr ht hq
  rw [List.getD_eq_getElem?_getD, List.getElem?_eq_getElem (by rw [moveL_len hr ht]; exact hq)] at e
  have g : ∀ i, i < L.length → L.getD i rec0 ∈ L := fun i hi => by
    rw [List.getD_eq_getElem?_getD, List.getElem?_eq_getElem hi]
    exact List.getElem_mem hi
  have e2 : (moveL L r t)[q] = (if q = t then L.getD r rec0 else if r ≤ q ∧ q < t then L.getD (q + 1) rec0 else if t < q ∧ q ≤ r then L.getD (q - 1) rec0 else L.getD q rec0) := e
  rw [e2]
  split
  · exact g r hr
  · split
    · exact g _ (by omega)
    · split
      · exact g _ (by omega)
      · exact g _ hq
theorem mov_row {A D : Nat → Int32} {S : aSet} {r t : Nat} (hS : setOK S) (h : rowRep A 0 S) (hr : r < (sRecs S).length) (ht : t < (sRecs S).length) : rowRep (movA A D r t) 0 (withRecs S (moveL (sRecs S) r t)) := by
  refine rowRep_recs hS h ?_ ?_ ?_
  · rw [moveL_len hr ht]
    simp only [movA, psA, upA, delA]
    rw [if_neg (by omega), if_neg (by omega), if_neg (by omega)]
    exact h.1
  · intro j h1 h2
    simp only [movA, psA, upA, delA]
    rw [if_neg (by omega), if_neg (by omega), if_neg (by omega)]
  · intro q hq
    rw [moveL_len hr ht] at hq
    rw [moveL_at hr ht hq]
    by_cases h1 : q = t
    · rw [if_pos h1]
      refine recRep_mv (setOK_rec hS hr) (fun j hj => ?_) (recRep_at h hr)
      subst h1
      simp only [movA, psA, asA]
      rw [if_pos (by omega), if_pos (by omega), Nat.add_sub_cancel_left]
    · rw [if_neg h1]
      by_cases h2 : r ≤ q ∧ q < t
      · rw [if_pos h2]
        refine recRep_mv (setOK_rec hS (by omega)) (fun j hj => ?_) (recRep_at h (by omega : q + 1 < _))
        simp only [movA, psA, upA, delA]
        rw [if_neg (by omega), if_neg (by omega), if_pos (by omega)]
        exact congrArg A (by omega)
      · rw [if_neg h2]
        by_cases h3 : t < q ∧ q ≤ r
        · rw [if_pos h3]
          refine recRep_mv (setOK_rec hS (by omega)) (fun j hj => ?_) (recRep_at h (by omega : q - 1 < _))
          simp only [movA, psA, upA, delA]
          rw [if_neg (by omega), if_pos (by omega), if_neg (by omega)]
          exact congrArg A (by omega)
        · rw [if_neg h3]
          refine recRep_mv (setOK_rec hS hq) (fun j hj => ?_) (recRep_at h hq)
          simp only [movA, psA, upA, delA]
          rw [if_neg (by omega), if_neg (by omega), if_neg (by omega)]
theorem mov_hi {A D : Nat → Int32} {r t j : Nat} (hr : r < 20) (ht : t < 20) (h : 1479 ≤ j) : movA A D r t j = A j := by
  simp only [movA, psA, upA, delA]
  rw [if_neg (by omega), if_neg (by omega), if_neg (by omega)]
section OM
variable {T : aSt} {r t : Int32} {a b : Nat}
theorem mov_1 (h : ¬ (jin r (sRecs (tSet T)).length = true ∧ jin t (sRecs (tSet T)).length = true)) : opMove r t T = (1, nI 0, T) := if_neg h
theorem mov_0 (ha : a < (sRecs (tSet T)).length) (hb : b < (sRecs (tSet T)).length) (h20 : (sRecs (tSet T)).length ≤ 20) {x : Int32} (hx : (if a = b then 0 else if a < b then nI (b - a + 1) else nI (a - b + 1)) = x) : opMove (nI a) (nI b) T = (0, x, chg T (withRecs (tSet T) (moveL (sRecs (tSet T)) a b))) := by
  rw [opMove, if_pos ⟨by rw [jin_nI (by omega)]; exact decide_eq_true ha, by rw [jin_nI (by omega)]; exact decide_eq_true hb⟩, toN_nI (by omega), toN_nI (by omega), hx]
end OM
theorem rA_comm {R : rR} {j k : Nat} {f g : Nat → Int32} (h : j ≠ k) : rA (rA R j f) k g = rA (rA R k g) j f := by
  refine Prod.ext rfl (funext fun i => ?_)
  simp only [rA]
  by_cases h1 : i = j
  · rw [if_pos h1, if_pos h1, if_neg (by omega)]
  · rw [if_neg h1, if_neg h1]
theorem ri_free {R : rR} {T : aSt} {k : Nat} {f : Nat → Int32} (h : rInv R T) (hk : k = 7 ∨ k = 8 ∨ k = 9 ∨ k = 10) : rInv (rA R k f) T := by
  rcases hk with rfl | rfl | rfl | rfl
  · exact h
  · exact h
  · exact h
  · exact h
set_option maxHeartbeats 4000000 in
set_option maxRecDepth 100000 in
theorem o_X10_moveRecord {r t : Int32} : ROp jX10_moveRecord 2 [.int r, .int t] (opMove r t) := by
  intro R T hi
  obtain ⟨S, P, V, b, e, u⟩ := T
  intro G o M0 hs hBo
  refine jMet_of [some (.ref o), some (.int r), some (.int t), none] (by decide) rfl (Nat.le_of_ble_eq_true rfl) rfl hs ?_
  intro C hC9 hG
  have hC := hC9.z
  have hB : jB C ≤ o := by rw [jB, hG]; exact hBo
  have hp : rPre R S := ri_pre hi
  have h20 := rp_n20 hp
  have hP8 : P.length ≤ 8 := ri_pn hi
  have hb120 : b.length ≤ 120 := ri_bn hi
  refine j_aload_n hC dX10_moveRecord_0 rfl (jrf_ref _) ?_
  refine j_aload_n hC dX10_moveRecord_1 rfl (jrf_ref _) ?_
  refine j_iload_n hC dX10_moveRecord_2 rfl ?_
  refine r_ci1 hC kv_X10_102 dX10_moveRecord_3 (m_X10_isRecord hp) hB rfl (by decide) (Nat.le_of_ble_eq_true rfl) ?_
  refine jb_if_eq (tgt := 21) hC dX10_moveRecord_6 (by decide) (fun c1 => ?_) (fun c1 => ?_)
  · refine j_iconst (v := nI 1) hC dX10_moveRecord_21 (by decide) ?_
    refine r_put hC kp_X10_78 dX10_moveRecord_22 hB rfl rfl rF_set_0 ?_
    refine j_aload_n hC dX10_moveRecord_25 rfl (jrf_ref _) ?_
    refine r_getN (x := nI (1)) hC kf_X10_78 dX10_moveRecord_26 rfl (rfl) ?_
    refine n_if_eq (tgt := 34) hC dX10_moveRecord_29 (by decide) (by omega) (fun c2 => ?_) (fun c2 => ?_)
    · exact absurd c2 (by decide)
    · refine j_iconst (v := nI 0) hC dX10_moveRecord_32 (by decide) ?_
      have e9 : opMove r t (S, P, V, b, e, u) = (1, nI (0), (S, P, V, b, e, u)) := mov_1 (fun h => by first | exact absurd h.1 (by assumption) | exact absurd h.2 (by assumption))
      exact j_iret hC9 rfl rfl dX10_moveRecord_33 ⟨(rs R 0 (nI (1))), ro_ans e9 (rfl) (hi), rfl⟩
  · refine j_aload_n hC dX10_moveRecord_9 rfl (jrf_ref _) ?_
    refine j_iload_n hC dX10_moveRecord_10 rfl ?_
    refine r_ci1 hC kv_X10_102 dX10_moveRecord_11 (m_X10_isRecord hp) hB rfl (by decide) (Nat.le_of_ble_eq_true rfl) ?_
    refine jb_if_eq (tgt := 21) hC dX10_moveRecord_14 (by decide) (fun c3 => ?_) (fun c3 => ?_)
    · refine j_iconst (v := nI 1) hC dX10_moveRecord_21 (by decide) ?_
      refine r_put hC kp_X10_78 dX10_moveRecord_22 hB rfl rfl rF_set_0 ?_
      refine j_aload_n hC dX10_moveRecord_25 rfl (jrf_ref _) ?_
      refine r_getN (x := nI (1)) hC kf_X10_78 dX10_moveRecord_26 rfl (rfl) ?_
      refine n_if_eq (tgt := 34) hC dX10_moveRecord_29 (by decide) (by omega) (fun c4 => ?_) (fun c4 => ?_)
      · exact absurd c4 (by decide)
      · refine j_iconst (v := nI 0) hC dX10_moveRecord_32 (by decide) ?_
        have e9 : opMove r t (S, P, V, b, e, u) = (1, nI (0), (S, P, V, b, e, u)) := mov_1 (fun h => by first | exact absurd h.1 (by assumption) | exact absurd h.2 (by assumption))
        exact j_iret hC9 rfl rfl dX10_moveRecord_33 ⟨(rs R 0 (nI (1))), ro_ans e9 (rfl) (hi), rfl⟩
    · refine j_iconst (v := nI 0) hC dX10_moveRecord_17 (by decide) ?_
      refine j_goto (tgt := 22) hC dX10_moveRecord_18 (by decide) ?_
      refine r_put hC kp_X10_78 dX10_moveRecord_22 hB rfl rfl rF_set_0 ?_
      refine j_aload_n hC dX10_moveRecord_25 rfl (jrf_ref _) ?_
      refine r_getN (x := nI (0)) hC kf_X10_78 dX10_moveRecord_26 rfl (rfl) ?_
      refine n_if_eq (tgt := 34) hC dX10_moveRecord_29 (by decide) (by omega) (fun c5 => ?_) (fun c5 => ?_)
      · obtain ⟨r9, hr9, rfl⟩ := jin_of (by assumption : jin r (sRecs S).length = true) (by omega)
        obtain ⟨t9, ht9, rfl⟩ := jin_of (by assumption : jin t (sRecs S).length = true) (by omega)
        refine j_aload_n hC dX10_moveRecord_34 rfl (jrf_ref _) ?_
        refine r_cv0 hC kv_X10_99 dX10_moveRecord_35 (m_X10_keeps (R := (rs R 0 (nI (0)))) (n := P.length) hP8 (ri_ch hi)) hB rfl (by decide) (Nat.le_of_ble_eq_true rfl) ?_
        have hi2 := ri_keep (T := (S, P, V, b, e, u)) (R := (rs R 0 (nI (0)))) hi
        have hp2 : rPre (keepR (rs R 0 (nI (0))) P.length) S := ri_pre hi2
        refine j_iconst (v := nI 0) hC dX10_moveRecord_38 (by decide) ?_
        refine j_istore_n3 hC dX10_moveRecord_39 (by decide) rfl ?_
        suffices K : ∀ (n9 : Nat) (k0 : Nat), 67 - k0 < n9 → (k0 ≤ 67) → J C (rM o M0 (rA (keepR (rs R 0 (nI (0))) P.length) 7 (asA ((keepR (rs R 0 (nI (0))) P.length).2 7) ((keepR (rs R 0 (nI (0))) P.length).2 1) r9 k0))) 0 0 40 [some (.ref o), some (.int (nI (r9))), some (.int (nI (t9))), some (.int (nI (k0)))] [] from j_R (by rw [asA_0]; exact rA_self.symm) (K _ (0) (Nat.lt_succ_self _) (by omega))
        intro n9
        induction n9 with
        | zero => intro k0 hm; omega
        | succ n9 ih =>
          intro k0 hm hk0
          refine j_iload_n hC dX10_moveRecord_40 rfl ?_
          refine j_bipush (v := nI 67) hC dX10_moveRecord_41 (by decide) ?_
          refine n_icmp_ge (tgt := 73) hC dX10_moveRecord_43 (by decide) (by omega) (by omega) (fun c6 => ?_) (fun c6 => ?_)
          · refine j_iload_n hC dX10_moveRecord_73 rfl ?_
            refine j_istore_n3 hC dX10_moveRecord_74 (by decide) rfl ?_
            suffices K : ∀ (n9 : Nat) (k : Nat), max r9 t9 - k < n9 → (r9 ≤ k) → (k ≤ max r9 t9) → J C (rM o M0 (rA (rA (keepR (rs R 0 (nI (0))) P.length) 7 (asA ((keepR (rs R 0 (nI (0))) P.length).2 7) ((keepR (rs R 0 (nI (0))) P.length).2 1) r9 67)) 1 (delA ((keepR (rs R 0 (nI (0))) P.length).2 1) r9 k))) 0 0 75 [some (.ref o), some (.int (nI (r9))), some (.int (nI (t9))), some (.int (nI (k)))] [] from j_R (by rw [delA_0, show k0 = 67 by omega]; exact (rA_self (R := rA (keepR (rs R 0 (nI (0))) P.length) 7 (asA ((keepR (rs R 0 (nI (0))) P.length).2 7) ((keepR (rs R 0 (nI (0))) P.length).2 1) r9 67))).symm) (K _ (r9) (Nat.lt_succ_self _) (by omega) (by omega))
            intro n9
            induction n9 with
            | zero => intro k hm; omega
            | succ n9 ih =>
              intro k hm hk1 hk2
              refine j_iload_n hC dX10_moveRecord_75 rfl ?_
              refine j_iload_n hC dX10_moveRecord_76 rfl ?_
              refine n_icmp_ge (tgt := 94) hC dX10_moveRecord_77 (by decide) (by omega) (by omega) (fun c7 => ?_) (fun c7 => ?_)
              · refine j_iload_n hC dX10_moveRecord_94 rfl ?_
                refine j_istore_n3 hC dX10_moveRecord_95 (by decide) rfl ?_
                suffices K : ∀ (n9 : Nat) (k3 : Nat), k3 < n9 → (k3 ≤ r9) → (min r9 t9 ≤ k3) → J C (rM o M0 (rA (rA (keepR (rs R 0 (nI (0))) P.length) 7 (asA ((keepR (rs R 0 (nI (0))) P.length).2 7) ((keepR (rs R 0 (nI (0))) P.length).2 1) r9 67)) 1 (upA (delA ((keepR (rs R 0 (nI (0))) P.length).2 1) r9 k) k3 r9))) 0 0 96 [some (.ref o), some (.int (nI (r9))), some (.int (nI (t9))), some (.int (nI (k3)))] [] from j_R (by rw [upA_0]) (K _ (r9) (Nat.lt_succ_self _) (by omega) (by omega))
                intro n9
                induction n9 with
                | zero => intro k3 hm; omega
                | succ n9 ih =>
                  intro k3 hm hk3 hk4
                  refine j_iload_n hC dX10_moveRecord_96 rfl ?_
                  refine j_iload_n hC dX10_moveRecord_97 rfl ?_
                  refine n_icmp_le (tgt := 115) hC dX10_moveRecord_98 (by decide) (by omega) (by omega) (fun c8 => ?_) (fun c8 => ?_)
                  · refine j_iconst (v := nI 0) hC dX10_moveRecord_115 (by decide) ?_
                    refine j_istore_n3 hC dX10_moveRecord_116 (by decide) rfl ?_
                    suffices K : ∀ (n9 : Nat) (k4 : Nat), 67 - k4 < n9 → (k4 ≤ 67) → J C (rM o M0 (rA (rA (keepR (rs R 0 (nI (0))) P.length) 7 (asA ((keepR (rs R 0 (nI (0))) P.length).2 7) ((keepR (rs R 0 (nI (0))) P.length).2 1) r9 67)) 1 (psA (upA (delA ((keepR (rs R 0 (nI (0))) P.length).2 1) r9 k) k3 r9) (asA ((keepR (rs R 0 (nI (0))) P.length).2 7) ((keepR (rs R 0 (nI (0))) P.length).2 1) r9 67) (139 + 67 * t9) k4))) 0 0 117 [some (.ref o), some (.int (nI (r9))), some (.int (nI (t9))), some (.int (nI (k4)))] [] from j_R (by rw [psA_0]) (K _ (0) (Nat.lt_succ_self _) (by omega))
                    intro n9
                    induction n9 with
                    | zero => intro k4 hm; omega
                    | succ n9 ih =>
                      intro k4 hm hk5
                      refine j_iload_n hC dX10_moveRecord_117 rfl ?_
                      refine j_bipush (v := nI 67) hC dX10_moveRecord_118 (by decide) ?_
                      refine n_icmp_ge (tgt := 150) hC dX10_moveRecord_120 (by decide) (by omega) (by omega) (fun c9 => ?_) (fun c9 => ?_)
                      · refine j_iload_n hC dX10_moveRecord_150 rfl ?_
                        refine j_iload_n hC dX10_moveRecord_151 rfl ?_
                        refine n_icmp_ne (tgt := 159) hC dX10_moveRecord_152 (by decide) (by omega) (by omega) (fun c10 => ?_) (fun c10 => ?_)
                        · refine j_iload_n hC dX10_moveRecord_159 rfl ?_
                          refine j_iload_n hC dX10_moveRecord_160 rfl ?_
                          refine n_icmp_ge (tgt := 172) hC dX10_moveRecord_161 (by decide) (by omega) (by omega) (fun c11 => ?_) (fun c11 => ?_)
                          · refine j_iload_n hC dX10_moveRecord_172 rfl ?_
                            refine j_iload_n hC dX10_moveRecord_173 rfl ?_
                            refine n_isub hC dX10_moveRecord_174 (by omega) ?_
                            refine j_iconst (v := nI 1) hC dX10_moveRecord_175 (by decide) ?_
                            refine n_iadd hC dX10_moveRecord_176 ?_
                            have e9 : opMove (nI r9) (nI t9) (S, P, V, b, e, u) = (0, nI ((r9 - t9) + (1)), chg (S, P, V, b, e, u) (withRecs S (moveL (sRecs S) r9 t9))) := mov_0 hr9 ht9 h20 (by first | rw [if_pos (by omega)]; rfl | rw [if_neg (by omega), if_pos (by omega)] | rw [if_neg (by omega), if_neg (by omega)])
                            exact j_iret hC9 rfl rfl dX10_moveRecord_177 ⟨(rA (rA (keepR (rs R 0 (nI (0))) P.length) 7 (asA ((keepR (rs R 0 (nI (0))) P.length).2 7) ((keepR (rs R 0 (nI (0))) P.length).2 1) r9 67)) 1 (psA (upA (delA ((keepR (rs R 0 (nI (0))) P.length).2 1) r9 k) k3 r9) (asA ((keepR (rs R 0 (nI (0))) P.length).2 7) ((keepR (rs R 0 (nI (0))) P.length).2 1) r9 67) (139 + 67 * t9) k4)), ro_ans e9 (rfl) (by rw [show k4 = 67 by omega, show k3 = min r9 t9 by omega, show k = max r9 t9 by omega]; exact ri_set (ri_free hi2 (Or.inl rfl)) (fun j hj => mov_hi (by omega) (by omega) hj) (mov_row (ri_ok hi2).1 (ri_row hi2) hr9 ht9) (setG_recs (ri_ok hi2) (by rw [moveL_len hr9 ht9]; exact h20) (fun q hq => setG_all (ri_ok hi2) q (moveL_mem hr9 ht9 q hq)))), rfl⟩
                          · refine j_iload_n hC dX10_moveRecord_164 rfl ?_
                            refine j_iload_n hC dX10_moveRecord_165 rfl ?_
                            refine n_isub hC dX10_moveRecord_166 (by omega) ?_
                            refine j_iconst (v := nI 1) hC dX10_moveRecord_167 (by decide) ?_
                            refine n_iadd hC dX10_moveRecord_168 ?_
                            refine j_goto (tgt := 177) hC dX10_moveRecord_169 (by decide) ?_
                            have e9 : opMove (nI r9) (nI t9) (S, P, V, b, e, u) = (0, nI ((t9 - r9) + (1)), chg (S, P, V, b, e, u) (withRecs S (moveL (sRecs S) r9 t9))) := mov_0 hr9 ht9 h20 (by first | rw [if_pos (by omega)]; rfl | rw [if_neg (by omega), if_pos (by omega)] | rw [if_neg (by omega), if_neg (by omega)])
                            exact j_iret hC9 rfl rfl dX10_moveRecord_177 ⟨(rA (rA (keepR (rs R 0 (nI (0))) P.length) 7 (asA ((keepR (rs R 0 (nI (0))) P.length).2 7) ((keepR (rs R 0 (nI (0))) P.length).2 1) r9 67)) 1 (psA (upA (delA ((keepR (rs R 0 (nI (0))) P.length).2 1) r9 k) k3 r9) (asA ((keepR (rs R 0 (nI (0))) P.length).2 7) ((keepR (rs R 0 (nI (0))) P.length).2 1) r9 67) (139 + 67 * t9) k4)), ro_ans e9 (rfl) (by rw [show k4 = 67 by omega, show k3 = min r9 t9 by omega, show k = max r9 t9 by omega]; exact ri_set (ri_free hi2 (Or.inl rfl)) (fun j hj => mov_hi (by omega) (by omega) hj) (mov_row (ri_ok hi2).1 (ri_row hi2) hr9 ht9) (setG_recs (ri_ok hi2) (by rw [moveL_len hr9 ht9]; exact h20) (fun q hq => setG_all (ri_ok hi2) q (moveL_mem hr9 ht9 q hq)))), rfl⟩
                        · refine j_iconst (v := nI 0) hC dX10_moveRecord_155 (by decide) ?_
                          refine j_goto (tgt := 177) hC dX10_moveRecord_156 (by decide) ?_
                          have e9 : opMove (nI r9) (nI t9) (S, P, V, b, e, u) = (0, nI (0), chg (S, P, V, b, e, u) (withRecs S (moveL (sRecs S) r9 t9))) := mov_0 hr9 ht9 h20 (by first | rw [if_pos (by omega)]; rfl | rw [if_neg (by omega), if_pos (by omega)] | rw [if_neg (by omega), if_neg (by omega)])
                          exact j_iret hC9 rfl rfl dX10_moveRecord_177 ⟨(rA (rA (keepR (rs R 0 (nI (0))) P.length) 7 (asA ((keepR (rs R 0 (nI (0))) P.length).2 7) ((keepR (rs R 0 (nI (0))) P.length).2 1) r9 67)) 1 (psA (upA (delA ((keepR (rs R 0 (nI (0))) P.length).2 1) r9 k) k3 r9) (asA ((keepR (rs R 0 (nI (0))) P.length).2 7) ((keepR (rs R 0 (nI (0))) P.length).2 1) r9 67) (139 + 67 * t9) k4)), ro_ans e9 (rfl) (by rw [show k4 = 67 by omega, show k3 = min r9 t9 by omega, show k = max r9 t9 by omega]; exact ri_set (ri_free hi2 (Or.inl rfl)) (fun j hj => mov_hi (by omega) (by omega) hj) (mov_row (ri_ok hi2).1 (ri_row hi2) hr9 ht9) (setG_recs (ri_ok hi2) (by rw [moveL_len hr9 ht9]; exact h20) (fun q hq => setG_all (ri_ok hi2) q (moveL_mem hr9 ht9 q hq)))), rfl⟩
                      · refine j_aload_n hC dX10_moveRecord_123 rfl (jrf_ref _) ?_
                        refine r_get hC kf_X10_9 dX10_moveRecord_124 rfl ?_
                        refine j_sipush (v := nI 139) hC dX10_moveRecord_127 (by decide) ?_
                        refine j_bipush (v := nI 67) hC dX10_moveRecord_130 (by decide) ?_
                        refine j_iload_n hC dX10_moveRecord_132 rfl ?_
                        refine n_imul hC dX10_moveRecord_133 ?_
                        refine n_iadd hC dX10_moveRecord_134 ?_
                        refine j_iload_n hC dX10_moveRecord_135 rfl ?_
                        refine n_iadd hC dX10_moveRecord_136 ?_
                        refine j_aload_n hC dX10_moveRecord_137 rfl (jrf_ref _) ?_
                        refine r_get hC kf_X10_20 dX10_moveRecord_138 rfl ?_
                        refine j_iload_n hC dX10_moveRecord_141 rfl ?_
                        refine r_ald (k := 7) (j := k4) hC dX10_moveRecord_142 (c := 3) (n := 67) (by decide) rfl rfl (by omega) (by decide) ?_
                        refine r_ast (k := 1) (j := ((139) + (67 * t9)) + (k4)) hC dX10_moveRecord_143 (c := 1) (n := 14790) (by decide) (fun _ => rfl) (rO_k1) hB rfl (by omega) (by decide) ?_
                        refine j_iinc_3 (v := nI (k4 + 1)) hC dX10_moveRecord_144 (nI_add _ _) (by decide) rfl ?_
                        refine j_goto (tgt := 117) hC dX10_moveRecord_147 (by decide) ?_
                        exact j_R (rA_ra.trans (rA_eq psA_succ)) (ih (k4 + 1) (by omega) (by omega))
                  · refine j_aload_n hC dX10_moveRecord_101 rfl (jrf_ref _) ?_
                    refine j_iload_n hC dX10_moveRecord_102 rfl ?_
                    refine j_iconst (v := nI 1) hC dX10_moveRecord_103 (by decide) ?_
                    refine n_isub hC dX10_moveRecord_104 (by omega) ?_
                    refine j_iload_n hC dX10_moveRecord_105 rfl ?_
                    refine r_cv2 hC kv_X10_106 dX10_moveRecord_106 (m_X10_moves (R := (rA (rA (keepR (rs R 0 (nI (0))) P.length) 7 (asA ((keepR (rs R 0 (nI (0))) P.length).2 7) ((keepR (rs R 0 (nI (0))) P.length).2 1) r9 67)) 1 (upA (delA ((keepR (rs R 0 (nI (0))) P.length).2 1) r9 k) k3 r9))) (f := k3 - 1) (t := k3) (by omega) (by omega)) hB rfl (by decide) (Nat.le_of_ble_eq_true rfl) ?_
                    refine j_iinc_3 (v := nI (k3 - 1)) hC dX10_moveRecord_109 (j_dec (a := k3) (b := 1) (by omega)) (by decide) rfl ?_
                    refine j_goto (tgt := 96) hC dX10_moveRecord_112 (by decide) ?_
                    exact j_R (rA_rA.trans (rA_eq (by rw [rA_at]; exact upA_succ (by omega) (by omega)))) (ih (k3 - 1) (by omega) (by omega) (by omega))
              · refine j_aload_n hC dX10_moveRecord_80 rfl (jrf_ref _) ?_
                refine j_iload_n hC dX10_moveRecord_81 rfl ?_
                refine j_iconst (v := nI 1) hC dX10_moveRecord_82 (by decide) ?_
                refine n_iadd hC dX10_moveRecord_83 ?_
                refine j_iload_n hC dX10_moveRecord_84 rfl ?_
                refine r_cv2 hC kv_X10_106 dX10_moveRecord_85 (m_X10_moves (R := (rA (rA (keepR (rs R 0 (nI (0))) P.length) 7 (asA ((keepR (rs R 0 (nI (0))) P.length).2 7) ((keepR (rs R 0 (nI (0))) P.length).2 1) r9 67)) 1 (delA ((keepR (rs R 0 (nI (0))) P.length).2 1) r9 k))) (f := k + 1) (t := k) (by omega) (by omega)) hB rfl (by decide) (Nat.le_of_ble_eq_true rfl) ?_
                refine j_iinc_3 (v := nI (k + 1)) hC dX10_moveRecord_88 (nI_add _ _) (by decide) rfl ?_
                refine j_goto (tgt := 75) hC dX10_moveRecord_91 (by decide) ?_
                exact j_R (rA_rA.trans (rA_eq (by rw [rA_at]; exact delA_succ (by omega)))) (ih (k + 1) (by omega) (by omega) (by omega))
          · refine j_aload_n hC dX10_moveRecord_46 rfl (jrf_ref _) ?_
            refine r_get hC kf_X10_20 dX10_moveRecord_47 rfl ?_
            refine j_iload_n hC dX10_moveRecord_50 rfl ?_
            refine j_aload_n hC dX10_moveRecord_51 rfl (jrf_ref _) ?_
            refine r_get hC kf_X10_9 dX10_moveRecord_52 rfl ?_
            refine j_sipush (v := nI 139) hC dX10_moveRecord_55 (by decide) ?_
            refine j_bipush (v := nI 67) hC dX10_moveRecord_58 (by decide) ?_
            refine j_iload_n hC dX10_moveRecord_60 rfl ?_
            refine n_imul hC dX10_moveRecord_61 ?_
            refine n_iadd hC dX10_moveRecord_62 ?_
            refine j_iload_n hC dX10_moveRecord_63 rfl ?_
            refine n_iadd hC dX10_moveRecord_64 ?_
            refine r_ald (k := 1) (j := ((139) + (67 * r9)) + (k0)) hC dX10_moveRecord_65 (c := 1) (n := 14790) (by decide) rfl rfl (by omega) (by decide) ?_
            refine r_ast (k := 7) (j := k0) hC dX10_moveRecord_66 (c := 3) (n := 67) (by decide) (fun _ => rfl) (rO_k7) hB rfl (by omega) (by decide) ?_
            refine j_iinc_3 (v := nI (k0 + 1)) hC dX10_moveRecord_67 (nI_add _ _) (by decide) rfl ?_
            refine j_goto (tgt := 40) hC dX10_moveRecord_70 (by decide) ?_
            exact j_R (rA_ra.trans (rA_eq asA_succ)) (ih (k0 + 1) (by omega) (by omega))
      · exact absurd c5 (by decide)
