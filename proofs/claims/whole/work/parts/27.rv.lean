section SO
variable {lt : Nat → Nat → Bool} {x : Nat} {o : List Nat}
theorem insP_le : ∀ p, insP lt x o p ≤ p
  | 0 => Nat.le_refl _
  | p + 1 => by
    simp only [insP]
    split
    · exact Nat.le_trans (insP_le p) (Nat.le_succ p)
    · exact Nat.le_refl _
theorem insP_step {p : Nat} (h0 : 0 < p) (h : lt x (o.getD (p - 1) 0) = true) : insP lt x o p = insP lt x o (p - 1) := by
  cases p with
  | zero => omega
  | succ p => exact if_pos h
theorem insP_stop {p : Nat} (h : p ≤ 0 ∨ ¬ lt x (o.getD (p - 1) 0) = true) : insP lt x o p = p := by
  cases p with
  | zero => rfl
  | succ p => exact if_neg (h.elim (fun e => by omega) id)
theorem ordL_len : ∀ n, (ordL lt n).length = n
  | 0 => rfl
  | n + 1 => by
    simp only [ordL]
    rw [List.length_insertIdx, ordL_len n, if_pos (insP_le n)]
theorem getD_ins {o : List Nat} {p x j : Nat} (hp : p ≤ o.length) : (o.insertIdx p x).getD j 0 = if j < p then o.getD j 0 else if j = p then x else o.getD (j - 1) 0 := by
  rw [List.getD_eq_getElem?_getD, List.getElem?_insertIdx]
  by_cases h1 : j < p
  · rw [if_pos h1, if_pos h1, List.getD_eq_getElem?_getD]
  · rw [if_neg h1, if_neg h1]
    by_cases h2 : j = p
    · rw [if_pos h2, if_pos h2, if_pos (by omega)]
      rfl
    · rw [if_neg h2, if_neg h2, List.getD_eq_getElem?_getD]
theorem ordL_s {n j : Nat} : (ordL lt (n + 1)).getD j 0 = if j < insP lt n (ordL lt n) n then (ordL lt n).getD j 0 else if j = insP lt n (ordL lt n) n then n else (ordL lt n).getD (j - 1) 0 := by
  simp only [ordL]
  exact getD_ins (by rw [ordL_len]; exact insP_le n)
theorem ordL_lt : ∀ {n j : Nat}, j < n → (ordL lt n).getD j 0 < n
  | 0, _, h => absurd h (Nat.not_lt_zero _)
  | n + 1, j, h => by
    have hp := insP_le (lt := lt) (x := n) (o := ordL lt n) n
    rw [ordL_s]
    by_cases h1 : j < insP lt n (ordL lt n) n
    · rw [if_pos h1]
      exact Nat.lt_succ_of_lt (ordL_lt (by omega))
    · rw [if_neg h1]
      split
      · omega
      · exact Nat.lt_succ_of_lt (ordL_lt (by omega))
end SO
theorem so_back {g : Nat → Int32} {lt : Nat → Nat → Bool} {r p : Nat} (hp : p ≤ r) (h1 : ∀ j, j < p → g j = nI ((ordL lt r).getD j 0)) (h2 : ∀ j, p < j → j ≤ r → g j = nI ((ordL lt r).getD (j - 1) 0)) (h3 : insP lt r (ordL lt r) r = p) : ∀ j, j < r + 1 → upd g p (nI r) j = nI ((ordL lt (r + 1)).getD j 0) := by
  intro j hj
  rw [ordL_s, h3]
  by_cases a : j < p
  · rw [if_pos a, pk_un (by omega)]
    exact h1 j a
  · rw [if_neg a]
    by_cases b : j = p
    · rw [if_pos b, b]
      exact pk_us
    · rw [if_neg b, pk_un b]
      exact h2 j (by omega) (by omega)
theorem so_b1 {g : Nat → Int32} {o : List Nat} {p : Nat} (h1 : ∀ j, j < p → g j = nI (o.getD j 0)) : ∀ j, j < p - 1 → upd g p (nI (o.getD (p - 1) 0)) j = nI (o.getD j 0) := fun j hj => (pk_un (by omega)).trans (h1 j (by omega))
theorem so_b2 {g : Nat → Int32} {o : List Nat} {p r : Nat} (h2 : ∀ j, p < j → j ≤ r → g j = nI (o.getD (j - 1) 0)) : ∀ j, p - 1 < j → j ≤ r → upd g p (nI (o.getD (p - 1) 0)) j = nI (o.getD (j - 1) 0) := by
  intro j h h'
  by_cases e : j = p
  · rw [e]
    exact pk_us
  · rw [pk_un e]
    exact h2 j (by omega) h'
theorem sc_b1 {h A : Nat → Int32} {o : List Nat} {r k : Nat} {v : Int32} (h1 : ∀ q, q < r → ∀ i, i < 67 → h (67 * q + i) = A (139 + 67 * o.getD q 0 + i)) : ∀ q, q < r → ∀ i, i < 67 → upd h (67 * r + k) v (67 * q + i) = A (139 + 67 * o.getD q 0 + i) := fun q hq i hi => (pk_un (by omega)).trans (h1 q hq i hi)
theorem sc_b2 {h A : Nat → Int32} {o : List Nat} {r k : Nat} (h1 : ∀ i, i < k → h (67 * r + i) = A (139 + 67 * o.getD r 0 + i)) : ∀ i, i < k + 1 → upd h (67 * r + k) (A (139 + 67 * o.getD r 0 + k)) (67 * r + i) = A (139 + 67 * o.getD r 0 + i) := by
  intro i hi
  by_cases e : i = k
  · rw [e]
    exact pk_us
  · rw [pk_un (by omega)]
    exact h1 i (by omega)
theorem sc_b3 {h A : Nat → Int32} {o : List Nat} {r k : Nat} (h1 : ∀ q, q < r → ∀ i, i < 67 → h (67 * q + i) = A (139 + 67 * o.getD q 0 + i)) (h2 : ∀ i, i < k → h (67 * r + i) = A (139 + 67 * o.getD r 0 + i)) (hk : 67 ≤ k) : ∀ q, q < r + 1 → ∀ i, i < 67 → h (67 * q + i) = A (139 + 67 * o.getD q 0 + i) := by
  intro q hq i hi
  by_cases e : q = r
  · rw [e]
    exact h2 i (by omega)
  · exact h1 q (by omega) i hi
theorem getD_mapS {o : List Nat} {S : aSet} {q : Nat} (h : q < o.length) : (o.map (sAt S)).getD q rec0 = sAt S (o.getD q 0) := by
  rw [List.getD_eq_getElem?_getD, List.getElem?_map, List.getElem?_eq_getElem h, List.getD_eq_getElem?_getD, List.getElem?_eq_getElem h]
  rfl
theorem psA_lo {A D : Nat → Int32} {b k j : Nat} (h : j < b) : psA A D b k j = A j := if_neg (by omega)
theorem srt_row {A h : Nat → Int32} {S : aSet} {o : List Nat} (hS : setOK S) (hA : rowRep A 0 S) (hl : o.length = (sRecs S).length) (ho : ∀ j, j < (sRecs S).length → o.getD j 0 < (sRecs S).length) (hh : ∀ q, q < (sRecs S).length → ∀ i, i < 67 → h (67 * q + i) = A (139 + 67 * o.getD q 0 + i)) : rowRep (psA A h 139 (67 * (sRecs S).length)) 0 (withRecs S (o.map (sAt S))) := by
  refine rowRep_recs hS hA ?_ ?_ ?_
  · rw [List.length_map, hl]
    exact hA.1
  · intro j h1 h2
    simp only [psA]
    rw [if_neg (by omega)]
  · intro q hq
    rw [List.length_map, hl] at hq
    rw [getD_mapS (by omega)]
    refine recRep_mv (setOK_rec hS (ho q hq)) (fun j hj => ?_) (recRep_at hA (ho q hq))
    simp only [psA]
    rw [if_pos (by omega), ← hh q hq j hj]
    exact congrArg h (by omega)
theorem srt_mem {S : aSet} {o : List Nat} (hl : o.length = (sRecs S).length) (ho : ∀ j, j < (sRecs S).length → o.getD j 0 < (sRecs S).length) : ∀ q ∈ o.map (sAt S), q ∈ sRecs S := by
  intro q hq
  obtain ⟨i, hi, rfl⟩ := List.mem_map.mp hq
  obtain ⟨j, hj, rfl⟩ := List.getElem_of_mem hi
  have h := ho j (by omega)
  rw [List.getD_eq_getElem?_getD, List.getElem?_eq_getElem hj] at h
  have h2 : o[j] < (sRecs S).length := h
  rw [sAt, List.getD_eq_getElem?_getD, List.getElem?_eq_getElem h2]
  exact List.getElem_mem h2
section ON
variable {T : aSt} {f : Int32} {c : Bool} {a : Nat}
theorem srt_1 (h : ¬ jin f 5 = true) : opSort f c T = (1, nI 0, T) := if_neg h
theorem srt_0 (ha : a < 5) : opSort (nI a) c T = (0, nI (movedN (ordA (tSet T) a c)), chg T (withRecs (tSet T) ((ordA (tSet T) a c).map (sAt (tSet T))))) := by
  rw [opSort, if_pos (by rw [jin_nI (by omega)]; exact decide_eq_true ha), toN_nI (by omega)]
end ON
set_option maxHeartbeats 4000000 in
set_option maxRecDepth 100000 in
theorem o_X10_sort {f : Int32} {c : Bool} : ROp jX10_sort 4 [.int f, .int (jb (c = true))] (opSort f c) := by
  intro R T hi
  obtain ⟨S, P, V, b, e, u⟩ := T
  intro G o M0 hs hBo
  refine jMet_of [some (.ref o), some (.int f), some (.int (jb (c = true))), none, none, none] (by decide) rfl (Nat.le_of_ble_eq_true rfl) rfl hs ?_
  intro C hC9 hG
  have hC := hC9.z
  have hB : jB C ≤ o := by rw [jB, hG]; exact hBo
  have hp : rPre R S := ri_pre hi
  have h20 := rp_n20 hp
  have hP8 : P.length ≤ 8 := ri_pn hi
  have hb120 : b.length ≤ 120 := ri_bn hi
  refine j_aload_n hC dX10_sort_0 rfl (jrf_ref _) ?_
  refine j_iload_n hC dX10_sort_1 rfl ?_
  refine j_iconst (v := nI 0) hC dX10_sort_2 (by decide) ?_
  refine j_iconst (v := nI 4) hC dX10_sort_3 (by decide) ?_
  refine s_ci3 hC ks_X10_88 dX10_sort_4 (m_X10_in) rfl (by decide) (Nat.le_of_ble_eq_true rfl) ?_
  refine j_top (jb_in9 (by decide)) ?_
  refine jb_if_eq (tgt := 14) hC dX10_sort_7 (by decide) (fun c1 => ?_) (fun c1 => ?_)
  · refine j_iconst (v := nI 1) hC dX10_sort_14 (by decide) ?_
    refine r_put hC kp_X10_78 dX10_sort_15 hB rfl rfl rF_set_0 ?_
    refine j_aload_n hC dX10_sort_18 rfl (jrf_ref _) ?_
    refine r_getN (x := nI (1)) hC kf_X10_78 dX10_sort_19 rfl (rfl) ?_
    refine n_if_eq (tgt := 27) hC dX10_sort_22 (by decide) (by omega) (fun c2 => ?_) (fun c2 => ?_)
    · exact absurd c2 (by decide)
    · refine j_iconst (v := nI 0) hC dX10_sort_25 (by decide) ?_
      have e9 : opSort f c (S, P, V, b, e, u) = (1, nI (0), (S, P, V, b, e, u)) := srt_1 (by assumption)
      exact j_iret hC9 rfl rfl dX10_sort_26 ⟨(rs R 0 (nI (1))), ro_ans e9 (rfl) (hi), rfl⟩
  · refine j_iconst (v := nI 0) hC dX10_sort_10 (by decide) ?_
    refine j_goto (tgt := 15) hC dX10_sort_11 (by decide) ?_
    refine r_put hC kp_X10_78 dX10_sort_15 hB rfl rfl rF_set_0 ?_
    refine j_aload_n hC dX10_sort_18 rfl (jrf_ref _) ?_
    refine r_getN (x := nI (0)) hC kf_X10_78 dX10_sort_19 rfl (rfl) ?_
    refine n_if_eq (tgt := 27) hC dX10_sort_22 (by decide) (by omega) (fun c3 => ?_) (fun c3 => ?_)
    · obtain ⟨f9, hf9, rfl⟩ := jin_of (by assumption : jin f 5 = true) (by decide)
      refine j_aload_n hC dX10_sort_27 rfl (jrf_ref _) ?_
      refine r_cv0 hC kv_X10_99 dX10_sort_28 (m_X10_keeps (R := (rs R 0 (nI (0)))) (n := P.length) hP8 (ri_ch hi)) hB rfl (by decide) (Nat.le_of_ble_eq_true rfl) ?_
      have hi2 := ri_keep (T := (S, P, V, b, e, u)) (R := (rs R 0 (nI (0)))) hi
      have hp2 : rPre (keepR (rs R 0 (nI (0))) P.length) S := ri_pre hi2
      refine j_iconst (v := nI 0) hC dX10_sort_31 (by decide) ?_
      refine j_istore_n3 hC dX10_sort_32 (by decide) rfl ?_
      suffices K : ∀ (n9a : Nat) (r : Nat) (g : Nat → Int32), (sRecs S).length - r < n9a → (r ≤ (sRecs S).length) → (∀ j, j < r → g j = nI ((ordL (ltA S f9 c) r).getD j 0)) → J C (rM o M0 (rA (keepR (rs R 0 (nI (0))) P.length) 8 g)) 0 0 33 [some (.ref o), some (.int (nI (f9))), some (.int (jb (c = true))), some (.int (nI (r))), none, none] [] from j_R (rA_self.symm) (K _ (0) (((keepR (rs R 0 (nI (0))) P.length).2 8)) (Nat.lt_succ_self _) (Nat.zero_le _) (fun j hj => absurd hj (by omega)))
      intro n9a
      induction n9a with
      | zero => intro r g hm; omega
      | succ n9a iha =>
        intro r g hma hr9 hg
        refine j_iload_n hC dX10_sort_33 rfl ?_
        refine j_aload_n hC dX10_sort_34 rfl (jrf_ref _) ?_
        refine r_get hC kf_X10_9 dX10_sort_35 rfl ?_
        refine j_iconst (v := nI 0) hC dX10_sort_38 (by decide) ?_
        refine r_aldN (k := 1) (j := 0) (x := nI ((sRecs S).length)) hC dX10_sort_39 (c := 1) (n := 14790) (by decide) rfl rfl (by omega) (by decide) (rp_many hp2) ?_
        refine n_icmp_ge (tgt := 106) hC dX10_sort_40 (by decide) (by omega) (by omega) (fun c4 => ?_) (fun c4 => ?_)
        · have hgn : ∀ j, j < (sRecs S).length → g j = nI ((ordA S f9 c).getD j 0) := by
            have e : (sRecs S).length = r := by omega
            rw [ordA, e]
            exact hg
          have hlo : (ordA S f9 c).length = (sRecs S).length := ordL_len _
          have hoo : ∀ j, j < (sRecs S).length → (ordA S f9 c).getD j 0 < (sRecs S).length := fun j hj => ordL_lt hj
          refine j_iconst (v := nI 0) hC dX10_sort_106 (by decide) ?_
          refine j_istore_n3 hC dX10_sort_107 (by decide) rfl ?_
          refine j_iconst (v := nI 0) hC dX10_sort_108 (by decide) ?_
          refine j_istore_4 hC dX10_sort_109 (by decide) rfl ?_
          suffices K : ∀ (n9c : Nat) (r2 : Nat) (h : Nat → Int32), (sRecs S).length - r2 < n9c → (r2 ≤ (sRecs S).length) → (∀ q, q < r2 → ∀ i, i < 67 → h (67 * q + i) = (keepR (rs R 0 (nI (0))) P.length).2 1 (139 + 67 * (ordA S f9 c).getD q 0 + i)) → J C (rM o M0 (rA (rA (keepR (rs R 0 (nI (0))) P.length) 8 g) 9 h)) 0 0 111 [some (.ref o), none, none, some (.int (nI (cntTo (fun i => decide (¬ (ordA S f9 c).getD i 0 = i)) r2))), some (.int (nI (r2))), none] [] from j_R (rA_self.symm) (j_L (jle_s (jle_n (jle_n (jle_s (jle_s (jle_s (jle_0))))))) (K _ (0) (((rA (keepR (rs R 0 (nI (0))) P.length) 8 g).2 9)) (Nat.lt_succ_self _) (Nat.zero_le _) (fun q hq => absurd hq (by omega))))
          intro n9c
          induction n9c with
          | zero => intro r2 h hm; omega
          | succ n9c ihc =>
            intro r2 h hmc hr2 hh
            refine j_iload hC dX10_sort_111 rfl ?_
            refine j_aload_n hC dX10_sort_113 rfl (jrf_ref _) ?_
            refine r_get hC kf_X10_9 dX10_sort_114 rfl ?_
            refine j_iconst (v := nI 0) hC dX10_sort_117 (by decide) ?_
            refine r_aldN (k := 1) (j := 0) (x := nI ((sRecs S).length)) hC dX10_sort_118 (c := 1) (n := 14790) (by decide) rfl rfl (by omega) (by decide) (rp_many hp2) ?_
            refine n_icmp_ge (tgt := 199) hC dX10_sort_119 (by decide) (by omega) (by omega) (fun c5 => ?_) (fun c5 => ?_)
            · have hhn : ∀ q, q < (sRecs S).length → ∀ i, i < 67 → h (67 * q + i) = (keepR (rs R 0 (nI (0))) P.length).2 1 (139 + 67 * (ordA S f9 c).getD q 0 + i) := by
                have e : (sRecs S).length = r2 := by omega
                rw [e]
                exact hh
              refine j_iconst (v := nI 0) hC dX10_sort_199 (by decide) ?_
              refine j_istore_4 hC dX10_sort_200 (by decide) rfl ?_
              suffices K : ∀ (n9e : Nat) (k3 : Nat), 67 * (sRecs S).length - k3 < n9e → (k3 ≤ 67 * (sRecs S).length) → J C (rM o M0 (rA (rA (rA (keepR (rs R 0 (nI (0))) P.length) 8 g) 9 h) 1 (psA ((keepR (rs R 0 (nI (0))) P.length).2 1) h 139 k3))) 0 0 202 [some (.ref o), none, none, some (.int (nI (cntTo (fun i => decide (¬ (ordA S f9 c).getD i 0 = i)) r2))), some (.int (nI (k3))), none] [] from j_R (by rw [psA_0]; exact (rA_self (R := rA (rA (keepR (rs R 0 (nI (0))) P.length) 8 g) 9 h)).symm) (K _ (0) (Nat.lt_succ_self _) (Nat.zero_le _))
              intro n9e
              induction n9e with
              | zero => intro k3 hm; omega
              | succ n9e ihe =>
                intro k3 hme hk3
                refine j_iload hC dX10_sort_202 rfl ?_
                refine j_bipush (v := nI 67) hC dX10_sort_204 (by decide) ?_
                refine j_aload_n hC dX10_sort_206 rfl (jrf_ref _) ?_
                refine r_get hC kf_X10_9 dX10_sort_207 rfl ?_
                refine j_iconst (v := nI 0) hC dX10_sort_210 (by decide) ?_
                refine r_aldN (k := 1) (j := 0) (x := nI ((sRecs S).length)) hC dX10_sort_211 (c := 1) (n := 14790) (by decide) rfl rfl (by omega) (by decide) ((congrFun rA_at 0).trans ((psA_lo (by decide)).trans (rp_many hp2))) ?_
                refine n_imul hC dX10_sort_212 ?_
                refine n_icmp_ge (tgt := 240) hC dX10_sort_213 (by decide) (by omega) (by omega) (fun c6 => ?_) (fun c6 => ?_)
                · refine j_iload_n hC dX10_sort_240 rfl ?_
                  have e9 : opSort (nI f9) c (S, P, V, b, e, u) = (0, nI (cntTo (fun i => decide (¬ (ordA S f9 c).getD i 0 = i)) r2), chg (S, P, V, b, e, u) (withRecs S ((ordA S f9 c).map (sAt S)))) := (srt_0 hf9).trans (by rw [show r2 = (sRecs S).length by omega, movedN, hlo])
                  exact j_iret hC9 rfl rfl dX10_sort_241 ⟨(rA (rA (rA (keepR (rs R 0 (nI (0))) P.length) 8 g) 9 h) 1 (psA ((keepR (rs R 0 (nI (0))) P.length).2 1) h 139 k3)), ro_ans e9 (rfl) (by rw [show k3 = 67 * (sRecs S).length by omega]; exact ri_set (ri_free (ri_free hi2 (Or.inr (Or.inl rfl))) (Or.inr (Or.inr (Or.inl rfl)))) (fun j hj => if_neg (by omega)) (srt_row (ri_ok hi2).1 (ri_row hi2) hlo hoo hhn) (setG_recs (ri_ok hi2) (by rw [List.length_map, hlo]; exact h20) (fun q hq => setG_all (ri_ok hi2) q (srt_mem hlo hoo q hq)))), rfl⟩
                · refine j_aload_n hC dX10_sort_216 rfl (jrf_ref _) ?_
                  refine r_get hC kf_X10_9 dX10_sort_217 rfl ?_
                  refine j_sipush (v := nI 139) hC dX10_sort_220 (by decide) ?_
                  refine j_iload hC dX10_sort_223 rfl ?_
                  refine n_iadd hC dX10_sort_225 ?_
                  refine j_aload_n hC dX10_sort_226 rfl (jrf_ref _) ?_
                  refine r_get hC kf_X10_26 dX10_sort_227 rfl ?_
                  refine j_iload hC dX10_sort_230 rfl ?_
                  refine r_ald (k := 9) (j := k3) hC dX10_sort_232 (c := 5) (n := 1340) (by decide) rfl rfl (by omega) (by decide) ?_
                  refine r_ast (k := 1) (j := 139 + k3) hC dX10_sort_233 (c := 1) (n := 14790) (by decide) (fun _ => rfl) (rO_k1) hB rfl (by omega) (by decide) ?_
                  refine j_iinc_4 (v := nI (k3 + 1)) hC dX10_sort_234 (nI_add _ _) (by decide) rfl ?_
                  refine j_goto (tgt := 202) hC dX10_sort_237 (by decide) ?_
                  exact j_R (rA_ra.trans (rA_eq psA_succ)) (ihe (k3 + 1) (by omega) (by omega))
            · have ho2 := hoo r2 (by omega)
              refine j_iload_n hC dX10_sort_122 rfl ?_
              refine j_aload_n hC dX10_sort_123 rfl (jrf_ref _) ?_
              refine r_get hC kf_X10_23 dX10_sort_124 rfl ?_
              refine j_iload hC dX10_sort_127 rfl ?_
              refine r_aldN (k := 8) (j := r2) (x := nI ((ordA S f9 c).getD r2 0)) hC dX10_sort_129 (c := 4) (n := 20) (by decide) rfl rfl (by omega) (by decide) (hgn _ (by omega)) ?_
              refine j_iload hC dX10_sort_130 rfl ?_
              suffices K : J C (rM o M0 ((rA (rA (keepR (rs R 0 (nI (0))) P.length) 8 g) 9 h))) 0 0 140 [some (.ref o), none, none, some (.int (nI (cntTo (fun i => decide (¬ (ordA S f9 c).getD i 0 = i)) r2))), some (.int (nI (r2))), none] [.int (nI (if decide (¬ (ordA S f9 c).getD r2 0 = r2) = true then 1 else 0)), .int (nI (cntTo (fun i => decide (¬ (ordA S f9 c).getD i 0 = i)) r2))] by
                refine n_icmp_ne (tgt := 139) hC dX10_sort_132 (by decide) (by omega) (by omega) (fun c7 => ?_) (fun c7 => ?_)
                · refine j_iconst (v := nI 1) hC dX10_sort_139 (by decide) ?_
                  exact j_top (by first | rw [if_pos (decide_eq_true (by assumption))] | rw [if_neg (by simp only [decide_eq_true_eq]; omega)]) K
                · refine j_iconst (v := nI 0) hC dX10_sort_135 (by decide) ?_
                  refine j_goto (tgt := 140) hC dX10_sort_136 (by decide) ?_
                  exact j_top (by first | rw [if_pos (decide_eq_true (by assumption))] | rw [if_neg (by simp only [decide_eq_true_eq]; omega)]) K
              refine n_iadd hC dX10_sort_140 ?_
              refine j_istore_n3 hC dX10_sort_141 (by decide) rfl ?_
              refine j_iconst (v := nI 0) hC dX10_sort_142 (by decide) ?_
              refine j_istore_5 hC dX10_sort_143 (by decide) rfl ?_
              suffices K : ∀ (n9d : Nat) (k2 : Nat) (h2 : Nat → Int32), 67 - k2 < n9d → (k2 ≤ 67) → (∀ q, q < r2 → ∀ i, i < 67 → h2 (67 * q + i) = (keepR (rs R 0 (nI (0))) P.length).2 1 (139 + 67 * (ordA S f9 c).getD q 0 + i)) → (∀ i, i < k2 → h2 (67 * r2 + i) = (keepR (rs R 0 (nI (0))) P.length).2 1 (139 + 67 * (ordA S f9 c).getD r2 0 + i)) → J C (rM o M0 (rA (rA (keepR (rs R 0 (nI (0))) P.length) 8 g) 9 h2)) 0 0 145 [some (.ref o), none, none, some (.int (nI (cntTo (fun i => decide (¬ (ordA S f9 c).getD i 0 = i)) (r2 + 1)))), some (.int (nI (r2))), some (.int (nI (k2)))] [] from j_R (rfl) (K _ (0) (h) (Nat.lt_succ_self _) (by omega) (hh) (fun i hi => absurd hi (by omega)))
              intro n9d
              induction n9d with
              | zero => intro k2 h2 hm; omega
              | succ n9d ihd =>
                intro k2 h2 hmd hk2 hh2 hh3
                refine j_iload hC dX10_sort_145 rfl ?_
                refine j_bipush (v := nI 67) hC dX10_sort_147 (by decide) ?_
                refine n_icmp_ge (tgt := 193) hC dX10_sort_149 (by decide) (by omega) (by omega) (fun c8 => ?_) (fun c8 => ?_)
                · refine j_iinc_4 (v := nI (r2 + 1)) hC dX10_sort_193 (nI_add _ _) (by decide) rfl ?_
                  refine j_goto (tgt := 111) hC dX10_sort_196 (by decide) ?_
                  exact j_R (rfl) (j_L (jle_s (jle_s (jle_s (jle_s (jle_s (jle_n (jle_0))))))) (ihc (r2 + 1) (h2) (by omega) (by omega) (sc_b3 hh2 hh3 (by omega))))
                · refine j_aload_n hC dX10_sort_152 rfl (jrf_ref _) ?_
                  refine r_get hC kf_X10_26 dX10_sort_153 rfl ?_
                  refine j_bipush (v := nI 67) hC dX10_sort_156 (by decide) ?_
                  refine j_iload hC dX10_sort_158 rfl ?_
                  refine n_imul hC dX10_sort_160 ?_
                  refine j_iload hC dX10_sort_161 rfl ?_
                  refine n_iadd hC dX10_sort_163 ?_
                  refine j_aload_n hC dX10_sort_164 rfl (jrf_ref _) ?_
                  refine r_get hC kf_X10_9 dX10_sort_165 rfl ?_
                  refine j_sipush (v := nI 139) hC dX10_sort_168 (by decide) ?_
                  refine j_bipush (v := nI 67) hC dX10_sort_171 (by decide) ?_
                  refine j_aload_n hC dX10_sort_173 rfl (jrf_ref _) ?_
                  refine r_get hC kf_X10_23 dX10_sort_174 rfl ?_
                  refine j_iload hC dX10_sort_177 rfl ?_
                  refine r_aldN (k := 8) (j := r2) (x := nI ((ordA S f9 c).getD r2 0)) hC dX10_sort_179 (c := 4) (n := 20) (by decide) rfl rfl (by omega) (by decide) (hgn _ (by omega)) ?_
                  refine n_imul hC dX10_sort_180 ?_
                  refine n_iadd hC dX10_sort_181 ?_
                  refine j_iload hC dX10_sort_182 rfl ?_
                  refine n_iadd hC dX10_sort_184 ?_
                  refine r_ald (k := 1) (j := ((139) + ((67) * ((ordA S f9 c).getD r2 0))) + (k2)) hC dX10_sort_185 (c := 1) (n := 14790) (by decide) rfl rfl (by omega) (by decide) ?_
                  refine r_ast (k := 9) (j := (67 * r2) + (k2)) hC dX10_sort_186 (c := 5) (n := 1340) (by decide) (fun _ => rfl) (rO_k9) hB rfl (by omega) (by decide) ?_
                  refine j_iinc_5 (v := nI (k2 + 1)) hC dX10_sort_187 (nI_add _ _) (by decide) rfl ?_
                  refine j_goto (tgt := 145) hC dX10_sort_190 (by decide) ?_
                  exact j_R (rA_ra) (ihd (k2 + 1) (upd h2 (67 * r2 + k2) ((keepR (rs R 0 (nI (0))) P.length).2 1 (139 + 67 * (ordA S f9 c).getD r2 0 + k2))) (by omega) (by omega) (sc_b1 hh2) (sc_b2 hh3))
        · refine j_iload_n hC dX10_sort_43 rfl ?_
          refine j_istore_4 hC dX10_sort_44 (by decide) rfl ?_
          suffices K : ∀ (n9b : Nat) (p : Nat) (g2 : Nat → Int32), p < n9b → (p ≤ r) → (∀ j, j < p → g2 j = nI ((ordL (ltA S f9 c) r).getD j 0)) → (∀ j, p < j → j ≤ r → g2 j = nI ((ordL (ltA S f9 c) r).getD (j - 1) 0)) → (insP (ltA S f9 c) r (ordL (ltA S f9 c) r) r = insP (ltA S f9 c) r (ordL (ltA S f9 c) r) p) → J C (rM o M0 (rA (keepR (rs R 0 (nI (0))) P.length) 8 g2)) 0 0 46 [some (.ref o), some (.int (nI (f9))), some (.int (jb (c = true))), some (.int (nI (r))), some (.int (nI (p))), none] [] from j_R (rfl) (K _ (r) (g) (Nat.lt_succ_self _) (Nat.le_refl _) (hg) (fun j a b => absurd a (by omega)) (rfl))
          intro n9b
          induction n9b with
          | zero => intro p g2 hm; omega
          | succ n9b ihb =>
            intro p g2 hmb hp9 h1 h2 h3
            refine j_iload hC dX10_sort_46 rfl ?_
            refine n_if_le (tgt := 92) hC dX10_sort_48 (by decide) (by omega) (fun c9 => ?_) (fun c9 => ?_)
            · refine j_aload_n hC dX10_sort_92 rfl (jrf_ref _) ?_
              refine r_get hC kf_X10_23 dX10_sort_93 rfl ?_
              refine j_iload hC dX10_sort_96 rfl ?_
              refine j_iload_n hC dX10_sort_98 rfl ?_
              refine r_ast (k := 8) (j := p) hC dX10_sort_99 (c := 4) (n := 20) (by decide) (fun _ => rfl) (rO_k8) hB rfl (by omega) (by decide) ?_
              refine j_iinc_3 (v := nI (r + 1)) hC dX10_sort_100 (nI_add _ _) (by decide) rfl ?_
              refine j_goto (tgt := 33) hC dX10_sort_103 (by decide) ?_
              exact j_R (rA_ra) (j_L (jle_s (jle_s (jle_s (jle_s (jle_n (jle_s (jle_0))))))) (iha (r + 1) (upd g2 p (nI r)) (by omega) (by omega) (so_back (by omega) h1 h2 (h3.trans (insP_stop (by first | exact Or.inl (by assumption) | exact Or.inr (by assumption)))))))
            · have hp3 : rPre (rA (keepR (rs R 0 (nI (0))) P.length) 8 g2) S := hp2
              have hq4 : (ordL (ltA S f9 c) r).getD (p - 1) 0 < r := ordL_lt (by omega)
              have hq3 : (ordL (ltA S f9 c) r).getD (p - 1) 0 < (sRecs S).length := by omega
              refine j_aload_n hC dX10_sort_51 rfl (jrf_ref _) ?_
              refine j_iload_n hC dX10_sort_52 rfl ?_
              refine j_aload_n hC dX10_sort_53 rfl (jrf_ref _) ?_
              refine r_get hC kf_X10_23 dX10_sort_54 rfl ?_
              refine j_iload hC dX10_sort_57 rfl ?_
              refine j_iconst (v := nI 1) hC dX10_sort_59 (by decide) ?_
              refine n_isub hC dX10_sort_60 (by omega) ?_
              refine r_aldN (k := 8) (j := p - 1) (x := nI ((ordL (ltA S f9 c) r).getD (p - 1) 0)) hC dX10_sort_61 (c := 4) (n := 20) (by decide) rfl rfl (by omega) (by decide) (h1 _ (by omega)) ?_
              refine j_iload_n hC dX10_sort_62 rfl ?_
              refine j_iload_n hC dX10_sort_63 rfl ?_
              refine r_ci4 hC kv_X10_123 dX10_sort_64 (m_X10_comesAhead (b := c) hp3 (by assumption) hq3 hf9) hB rfl (by decide) (Nat.le_of_ble_eq_true rfl) ?_
              refine jb_if_eq (tgt := 92) hC dX10_sort_67 (by decide) (fun c10 => ?_) (fun c10 => ?_)
              · refine j_aload_n hC dX10_sort_92 rfl (jrf_ref _) ?_
                refine r_get hC kf_X10_23 dX10_sort_93 rfl ?_
                refine j_iload hC dX10_sort_96 rfl ?_
                refine j_iload_n hC dX10_sort_98 rfl ?_
                refine r_ast (k := 8) (j := p) hC dX10_sort_99 (c := 4) (n := 20) (by decide) (fun _ => rfl) (rO_k8) hB rfl (by omega) (by decide) ?_
                refine j_iinc_3 (v := nI (r + 1)) hC dX10_sort_100 (nI_add _ _) (by decide) rfl ?_
                refine j_goto (tgt := 33) hC dX10_sort_103 (by decide) ?_
                exact j_R (rA_ra) (j_L (jle_s (jle_s (jle_s (jle_s (jle_n (jle_s (jle_0))))))) (iha (r + 1) (upd g2 p (nI r)) (by omega) (by omega) (so_back (by omega) h1 h2 (h3.trans (insP_stop (by first | exact Or.inl (by assumption) | exact Or.inr (by assumption)))))))
              · refine j_aload_n hC dX10_sort_70 rfl (jrf_ref _) ?_
                refine r_get hC kf_X10_23 dX10_sort_71 rfl ?_
                refine j_iload hC dX10_sort_74 rfl ?_
                refine j_aload_n hC dX10_sort_76 rfl (jrf_ref _) ?_
                refine r_get hC kf_X10_23 dX10_sort_77 rfl ?_
                refine j_iload hC dX10_sort_80 rfl ?_
                refine j_iconst (v := nI 1) hC dX10_sort_82 (by decide) ?_
                refine n_isub hC dX10_sort_83 (by omega) ?_
                refine r_aldN (k := 8) (j := p - 1) (x := nI ((ordL (ltA S f9 c) r).getD (p - 1) 0)) hC dX10_sort_84 (c := 4) (n := 20) (by decide) rfl rfl (by omega) (by decide) (h1 _ (by omega)) ?_
                refine r_ast (k := 8) (j := p) hC dX10_sort_85 (c := 4) (n := 20) (by decide) (fun _ => rfl) (rO_k8) hB rfl (by omega) (by decide) ?_
                refine j_iinc_4 (v := nI (p - 1)) hC dX10_sort_86 (j_dec (a := p) (b := 1) (by omega)) (by decide) rfl ?_
                refine j_goto (tgt := 46) hC dX10_sort_89 (by decide) ?_
                exact j_R (rA_ra) (ihb (p - 1) (upd g2 p (nI ((ordL (ltA S f9 c) r).getD (p - 1) 0))) (by omega) (by omega) (so_b1 h1) (so_b2 h2) (h3.trans (insP_step (by omega) (by assumption))))
    · exact absurd c3 (by decide)
