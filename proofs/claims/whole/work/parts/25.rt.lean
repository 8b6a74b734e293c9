theorem set0_OK : setG set0 := ⟨⟨Nat.zero_le _, by decide, by decide, by decide, ⟨by decide, by decide⟩, ⟨Nat.zero_le _, fun c hc => absurd (show c ∈ ([] : List Nat) from hc) List.not_mem_nil⟩, ⟨Nat.zero_le _, fun c hc => absurd (show c ∈ ([] : List Nat) from hc) List.not_mem_nil⟩, fun q hq => absurd (show q ∈ ([] : List aRec) from hq) List.not_mem_nil⟩, by decide +kernel⟩
theorem ri_clr {R : rR} {T : aSt} (hi : rInv R T) : rInv (clrR R) (set0, [], T.2.2) := by
  obtain ⟨h1, h2, h3, h4, h5, h6, h7, h8, h9, h10, h11, h12, h13, h14, h15⟩ := hi
  refine ⟨⟨rfl, rfl, rfl, rfl, rfl, rfl, fun i hi => absurd hi (Nat.not_lt_zero i), rfl, fun i hi => absurd hi (Nat.not_lt_zero i), fun r hr => absurd hr (Nat.not_lt_zero r)⟩, set0_OK, Nat.zero_le _, rfl, fun k S hk => absurd hk (by simp [tPast]), h6, fun S' hS' => ?_, h8, h9, h10, h11, h12, h13, h14, h15⟩
  have e := h7 S' hS'
  refine ⟨rowRep_mv e.2.1 (fun j hj => ?_) e.1, e.2⟩
  show upd (zrA (R.2 1) 1479) 4 (nI 100) (1479 * 9 + j) = _
  rw [pk_un (by omega), zrA, if_neg (by omega)]
/-! append -/
def nz (p : Int32) (i : Nat) : List Nat := ((bytesN p).take i).filter (fun b => b ≠ 0)
theorem byteN_lt {p : Int32} {k : Nat} : byteN p k < 256 := Nat.mod_lt _ (by decide)
theorem nz_z {p : Int32} : ∀ {i : Nat}, i < 4 → byteN p (3 - i) = 0 → nz p (i + 1) = nz p i
  | 0, _, h => by simp [nz, bytesN, h]
  | 1, _, h => by simp [nz, bytesN, List.filter_cons, h]
  | 2, _, h => by simp [nz, bytesN, List.filter_cons, h]
  | 3, _, h => by simp [nz, bytesN, List.filter_cons, h]
  | i + 4, hi, _ => absurd hi (by omega)
theorem nz_split {p : Int32} : ∀ {i : Nat}, i < 4 → (bytesN p).take (i + 1) = (bytesN p).take i ++ [byteN p (3 - i)]
  | 0, _ => rfl
  | 1, _ => rfl
  | 2, _ => rfl
  | 3, _ => rfl
  | i + 4, hi => absurd hi (by omega)
theorem nz_s {p : Int32} {i : Nat} (hi : i < 4) (h : ¬ byteN p (3 - i) = 0) : nz p (i + 1) = nz p i ++ [byteN p (3 - i)] := by
  rw [nz, nz_split hi, List.filter_append, nz]
  congr 1
  simp [h]
theorem nz_4 {p : Int32} : (bytesN p).filter (fun b => b ≠ 0) = nz p 4 := rfl
theorem nz_le {p : Int32} {i : Nat} : (nz p i).length ≤ (nz p 4).length := (List.Sublist.filter _ (List.take_sublist i (bytesN p))).length_le
theorem nz_lt4 {p : Int32} {i : Nat} : (nz p i).length ≤ 4 := Nat.le_trans nz_le (List.length_filter_le _ _)
def nzOK (p : Int32) (i : Nat) : Prop := ∀ c ∈ nz p i, 32 ≤ c ∧ c ≤ 126
theorem nzOK_0 {p : Int32} : nzOK p 0 := fun c hc => absurd (show c ∈ ([] : List Nat) from hc) List.not_mem_nil
theorem nzOK_z {p : Int32} {i : Nat} (h : nzOK p i) (hi : i < 4) (h0 : byteN p (3 - i) = 0) : nzOK p (i + 1) := by
  rw [nzOK, nz_z hi h0]
  exact h
theorem nzOK_s {p : Int32} {i : Nat} (h : nzOK p i) (hi : i < 4) (h0 : ¬ byteN p (3 - i) = 0) (h2 : 32 ≤ byteN p (3 - i) ∧ byteN p (3 - i) ≤ 126) : nzOK p (i + 1) := by
  rw [nzOK, nz_s hi h0]
  intro c hc
  rcases List.mem_append.mp hc with hc | hc
  · exact h c hc
  · rw [List.mem_singleton.mp hc]
    exact h2
theorem sh_ok : ∀ i : Nat, i < 4 → (((zI (24 - 8 * (i : Int))).toUInt32 &&& Int32.toUInt32 31).toBitVec % 32).toNat = 8 * (3 - i) := by decide +kernel
theorem ap_byte {p : Int32} {i : Nat} {k : Int} (hk : k = 24 - 8 * (i : Int)) (hi : i < 4) : ((p.toUInt32 >>> ((zI k).toUInt32 &&& Int32.toUInt32 31)).toInt32 &&& nI 255) = nI (byteN p (3 - i)) := by
  subst hk
  rw [pk_and _ 8 (by decide), pk_ushr p _ _ (sh_ok i hi)]
  rfl
section OL
variable {T : aSt} {p : Int32} {i : Nat}
theorem app_1 (hi : i < 4) (h0 : ¬ byteN p (3 - i) = 0) (h : ¬ (32 ≤ byteN p (3 - i) ∧ byteN p (3 - i) ≤ 126)) : opAppend p T = (1, nI 0, T) := by
  rw [opAppend, if_neg]
  · rfl
  · rw [nz_4]
    intro e
    have e2 := List.all_eq_true.mp e (byteN p (3 - i)) ?_
    · exact h (of_decide_eq_true e2)
    · have e3 : byteN p (3 - i) ∈ nz p (i + 1) := by
        rw [nz_s hi h0]
        exact List.mem_append_right _ (List.mem_singleton_self _)
      exact (List.Sublist.filter _ (List.take_sublist (i + 1) (bytesN p))).subset e3
theorem app_all (h : nzOK p 4) : (((bytesN p).filter (fun b => b ≠ 0)).all isCh) = true := by
  rw [nz_4, List.all_eq_true]
  exact fun c hc => decide_eq_true (h c hc)
theorem app_2 (h : nzOK p 4) (h2 : 120 < (tBuf T).length + (nz p 4).length) : opAppend p T = (2, nI 0, T) := by
  rw [opAppend, if_pos (app_all h), if_neg (by rw [nz_4]; omega)]
  rfl
theorem app_0 (h : nzOK p 4) (h2 : (tBuf T).length + (nz p 4).length ≤ 120) : opAppend p T = (0, nI ((tBuf T).length + (nz p 4).length), setBuf T (tBuf T ++ nz p 4)) := by
  rw [opAppend, if_pos (app_all h), if_pos (by rw [nz_4]; exact h2)]
  rfl
end OL
def apA (A : Nat → Int32) (n : Nat) (l : List Nat) : Nat → Int32 := fun j => if n ≤ j ∧ j < n + l.length then nI (l.getD (j - n) 0) else A j
def apR (R : rR) (n : Nat) (l : List Nat) : rR := rs (rA R 4 (apA (R.2 4) n l)) 5 (nI (n + l.length))
theorem apR_0 {R : rR} {n : Nat} (h : R.1 5 = nI n) : R = apR R n [] := by
  refine Prod.ext (funext fun j => ?_) (funext fun j => ?_)
  · show R.1 j = if j = 5 then nI (n + 0) else R.1 j
    split
    · rename_i e
      rw [e]; exact h
    · rfl
  · show R.2 j = if j = 4 then apA (R.2 4) n [] else R.2 j
    split
    · rename_i e
      subst e
      funext i
      simp only [apA, List.length_nil]
      rw [if_neg (by omega)]
    · rfl
theorem apR_s {R : rR} {n v m : Nat} {l : List Nat} (hm : m = n + l.length) : rs (ra (apR R n l) 4 m (nI v)) 5 (nI (m + 1)) = apR R n (l ++ [v]) := by
  subst hm
  refine Prod.ext (funext fun j => ?_) (funext fun j => ?_)
  · show (if j = 5 then nI (n + l.length + 1) else if j = 5 then nI (n + l.length) else R.1 j) = if j = 5 then nI (n + (l ++ [v]).length) else R.1 j
    by_cases e : j = 5
    · rw [if_pos e, if_pos e, List.length_append]
      rfl
    · rw [if_neg e, if_neg e, if_neg e]
  · show (if j = 4 then upd (if j = 4 then apA (R.2 4) n l else R.2 j) (n + l.length) (nI v) else (if j = 4 then apA (R.2 4) n l else R.2 j)) = if j = 4 then apA (R.2 4) n (l ++ [v]) else R.2 j
    by_cases e : j = 4
    · rw [if_pos e, if_pos e, if_pos e]
      funext i
      simp only [upd, apA, List.length_append, List.length_singleton]
      by_cases h1 : i = n + l.length
      · subst h1
        rw [if_pos rfl, if_pos (by omega), Nat.add_sub_cancel_left, getD_appN]
      · rw [if_neg h1]
        by_cases h2 : n ≤ i ∧ i < n + l.length
        · rw [if_pos h2, if_pos (by omega), getD_app (by omega)]
        · rw [if_neg h2, if_neg (by omega)]
    · rw [if_neg e, if_neg e, if_neg e]
theorem ri_app {R : rR} {T : aSt} {l : List Nat} {n : Nat} (hi : rInv R T) (hn : n = (tBuf T).length) (h : n + l.length ≤ 120) (hl : ∀ c ∈ l, 32 ≤ c ∧ c ≤ 126) : rInv (apR R n l) (setBuf T (tBuf T ++ l)) := by
  subst hn
  obtain ⟨h1, h2, h3, h4, h5, h6, h7, h8, h9, h10, h11, h12, h13, h14, h15⟩ := hi
  refine ⟨h1, h2, h3, h4, h5, h6, h7, ?_, ?_, fun i hi => ?_, fun c hc => ?_, h12, h13, h14, h15⟩
  · show (tBuf T ++ l).length ≤ 120
    rw [List.length_append]; exact h
  · show nI _ = nI (tBuf T ++ l).length
    rw [List.length_append]
  · have hi2 : i < (tBuf T).length + l.length := by
      have : i < (tBuf T ++ l).length := hi
      rwa [List.length_append] at this
    show apA (R.2 4) (tBuf T).length l i = nI ((tBuf T ++ l).getD i 0)
    unfold apA
    by_cases hc : i < (tBuf T).length
    · rw [if_neg (by omega), h10 i hc, List.getD_eq_getElem?_getD, List.getD_eq_getElem?_getD, List.getElem?_append_left hc]
    · rw [if_pos (by omega), List.getD_eq_getElem?_getD, List.getD_eq_getElem?_getD, List.getElem?_append_right (by omega)]
  · exact (List.mem_append.mp hc).elim (h11 c) (hl c)
set_option maxHeartbeats 4000000 in
set_option maxRecDepth 100000 in
theorem o_X10_clear  : ROp jX10_clear 0 [] (opClear) := by
  intro R T hi
  obtain ⟨S, P, V, b, e, u⟩ := T
  intro G o M0 hs hBo
  refine jMet_of [some (.ref o), none, none] (by decide) rfl (Nat.le_of_ble_eq_true rfl) rfl hs ?_
  intro C hC9 hG
  have hC := hC9.z
  have hB : jB C ≤ o := by rw [jB, hG]; exact hBo
  have hp : rPre R S := ri_pre hi
  have h20 := rp_n20 hp
  have hP8 : P.length ≤ 8 := ri_pn hi
  have hb120 : b.length ≤ 120 := ri_bn hi
  refine j_aload_n hC dX10_clear_0 rfl (jrf_ref _) ?_
  refine j_iconst (v := nI 0) hC dX10_clear_1 (by decide) ?_
  refine r_put hC kp_X10_78 dX10_clear_2 hB rfl rfl rF_set_0 ?_
  refine j_aload_n hC dX10_clear_5 rfl (jrf_ref _) ?_
  refine r_get hC kf_X10_9 dX10_clear_6 rfl ?_
  refine j_iconst (v := nI 0) hC dX10_clear_9 (by decide) ?_
  refine r_aldN (k := 1) (j := 0) (x := nI ((sRecs S).length)) hC dX10_clear_10 (c := 1) (n := 14790) (by decide) rfl rfl (by omega) (by decide) (rp_many hp) ?_
  refine j_istore_n1 hC dX10_clear_11 (by decide) rfl ?_
  refine j_iconst (v := nI 0) hC dX10_clear_12 (by decide) ?_
  refine j_istore_n2 hC dX10_clear_13 (by decide) rfl ?_
  suffices K : ∀ (n9 : Nat) (k : Nat), 1479 - k < n9 → (k ≤ 1479) → J C (rM o M0 (rA (rs R 0 (nI 0)) 1 (zrA (R.2 1) k))) 0 0 14 [some (.ref o), some (.int (nI ((sRecs S).length))), some (.int (nI (k)))] [] from j_R (by rw [zrA_0]; exact (rA_self (R := rs R 0 (nI 0))).symm) (K _ (0) (Nat.lt_succ_self _) (by omega))
  intro n9
  induction n9 with
  | zero => intro k hm; omega
  | succ n9 ih =>
    intro k hm hk
    refine j_iload_n hC dX10_clear_14 rfl ?_
    refine j_sipush (v := nI 1479) hC dX10_clear_15 (by decide) ?_
    refine n_icmp_ge (tgt := 34) hC dX10_clear_18 (by decide) (by omega) (by omega) (fun c1 => ?_) (fun c1 => ?_)
    · refine j_aload_n hC dX10_clear_34 rfl (jrf_ref _) ?_
      refine r_get hC kf_X10_9 dX10_clear_35 rfl ?_
      refine j_iconst (v := nI 4) hC dX10_clear_38 (by decide) ?_
      refine j_bipush (v := nI 100) hC dX10_clear_39 (by decide) ?_
      refine r_ast (k := 1) (j := 4) hC dX10_clear_41 (c := 1) (n := 14790) (by decide) (fun _ => rfl) (rO_k1) hB rfl (by omega) (by decide) ?_
      refine j_aload_n hC dX10_clear_42 rfl (jrf_ref _) ?_
      refine j_iconst (v := nI 0) hC dX10_clear_43 (by decide) ?_
      refine r_put hC kp_X10_81 dX10_clear_44 hB rfl rfl rF_set_2 ?_
      refine j_iload_n hC dX10_clear_47 rfl ?_
      have e9 : opClear (S, P, V, b, e, u) = (0, nI ((sRecs S).length), (set0, [], V, b, e, u)) := rfl
      exact j_iret hC9 rfl rfl dX10_clear_48 ⟨(rs (ra (rA (rs R 0 (nI 0)) 1 (zrA (R.2 1) k)) 1 (4) (nI (100))) 2 (nI (0))), ro_ans e9 (rfl) (by rw [show k = 1479 by omega]; exact ri_clr (T := (S, P, V, b, e, u)) hi), rfl⟩
    · refine j_aload_n hC dX10_clear_21 rfl (jrf_ref _) ?_
      refine r_get hC kf_X10_9 dX10_clear_22 rfl ?_
      refine j_iload_n hC dX10_clear_25 rfl ?_
      refine j_iconst (v := nI 0) hC dX10_clear_26 (by decide) ?_
      refine r_ast (k := 1) (j := k) hC dX10_clear_27 (c := 1) (n := 14790) (by decide) (fun _ => rfl) (rO_k1) hB rfl (by omega) (by decide) ?_
      refine j_iinc_2 (v := nI (k + 1)) hC dX10_clear_28 (nI_add _ _) (by decide) rfl ?_
      refine j_goto (tgt := 14) hC dX10_clear_31 (by decide) ?_
      exact j_R (rA_ra.trans (rA_eq zrA_succ)) (ih (k + 1) (by omega) (by omega))
set_option maxHeartbeats 4000000 in
set_option maxRecDepth 100000 in
theorem o_X10_append {p : Int32} : ROp jX10_append 1 [.int p] (opAppend p) := by
  intro R T hi
  obtain ⟨S, P, V, b, e, u⟩ := T
  intro G o M0 hs hBo
  refine jMet_of [some (.ref o), some (.int p), none, none, none] (by decide) rfl (Nat.le_of_ble_eq_true rfl) rfl hs ?_
  intro C hC9 hG
  have hC := hC9.z
  have hB : jB C ≤ o := by rw [jB, hG]; exact hBo
  have hp : rPre R S := ri_pre hi
  have h20 := rp_n20 hp
  have hP8 : P.length ≤ 8 := ri_pn hi
  have hb120 : b.length ≤ 120 := ri_bn hi
  refine j_aload_n hC dX10_append_0 rfl (jrf_ref _) ?_
  refine j_iconst (v := nI 0) hC dX10_append_1 (by decide) ?_
  refine r_put hC kp_X10_78 dX10_append_2 hB rfl rfl rF_set_0 ?_
  refine j_iconst (v := nI 0) hC dX10_append_5 (by decide) ?_
  refine j_istore_n2 hC dX10_append_6 (by decide) rfl ?_
  refine j_bipush (v := nI 24) hC dX10_append_7 (by decide) ?_
  refine j_istore_n3 hC dX10_append_9 (by decide) rfl ?_
  suffices K : ∀ (n9 : Nat) (i : Nat) (k : Int) (m : Nat), 4 - i < n9 → (i ≤ 4) → (k = 24 - 8 * (i : Int)) → (m = (nz p i).length) → (nzOK p i) → J C (rM o M0 (rs R 0 (nI 0))) 0 0 10 [some (.ref o), some (.int (p)), some (.int (nI (m))), some (.int (zI (k))), none] [] from j_R (rfl) (K _ (0) (24) (0) (Nat.lt_succ_self _) (by omega) (rfl) (rfl) (nzOK_0))
  intro n9
  induction n9 with
  | zero => intro i k m hm; omega
  | succ n9 ih =>
    intro i k m hm hi4 hk hm2 hA
    refine j_iload_n hC dX10_append_10 rfl ?_
    refine z_if_lt (a := (k)) (tgt := 59) hC dX10_append_11 (by decide) (by unfold zB; omega) (fun c1 => ?_) (fun c1 => ?_)
    · have hA4 : nzOK p 4 := by rw [show 4 = i by omega]; exact hA
      have hm4 : m = (nz p 4).length := by rw [show 4 = i by omega]; exact hm2
      have hn4 := nz_lt4 (p := p) (i := 4)
      refine j_aload_n hC dX10_append_59 rfl (jrf_ref _) ?_
      refine r_getN (x := nI (b.length)) hC kf_X10_96 dX10_append_60 rfl (ri_bl hi) ?_
      refine j_iload_n hC dX10_append_63 rfl ?_
      refine n_iadd hC dX10_append_64 ?_
      refine j_bipush (v := nI 120) hC dX10_append_65 (by decide) ?_
      refine n_icmp_le (tgt := 77) hC dX10_append_67 (by decide) (by omega) (by omega) (fun c2 => ?_) (fun c2 => ?_)
      · refine j_bipush (v := nI 24) hC dX10_append_77 (by decide) ?_
        refine j_istore_n3 hC dX10_append_79 (by decide) rfl ?_
        suffices K : ∀ (n9 : Nat) (i2 : Nat) (k2 : Int), 4 - i2 < n9 → (i2 ≤ 4) → (k2 = 24 - 8 * (i2 : Int)) → (b.length + (nz p i2).length ≤ 120) → J C (rM o M0 (apR (rs R 0 (nI 0)) b.length (nz p i2))) 0 0 80 [some (.ref o), some (.int (p)), none, some (.int (zI (k2))), none] [] from j_R (apR_0 (ri_bl hi)) (j_L (jle_s (jle_s (jle_n (jle_s (jle_s (jle_0)))))) (K _ (0) (24) (Nat.lt_succ_self _) (by omega) (rfl) (by have := nz_le (p := p) (i := 0); omega)))
        intro n9
        induction n9 with
        | zero => intro i2 k2 hm; omega
        | succ n9 ih =>
          intro i2 k2 hm hi2 hk2 hg2
          refine j_iload_n hC dX10_append_80 rfl ?_
          refine z_if_lt (a := (k2)) (tgt := 128) hC dX10_append_81 (by decide) (by unfold zB; omega) (fun c3 => ?_) (fun c3 => ?_)
          · refine j_aload_n hC dX10_append_128 rfl (jrf_ref _) ?_
            refine r_getN (x := nI (b.length + (nz p i2).length)) hC kf_X10_96 dX10_append_129 rfl (rfl) ?_
            have e9 : opAppend p (S, P, V, b, e, u) = (0, nI (b.length + (nz p i2).length), setBuf (S, P, V, b, e, u) (b ++ nz p 4)) := by rw [show i2 = 4 by omega] at hg2 ⊢; exact app_0 hA4 (by show b.length + _ ≤ 120; omega)
            exact j_iret hC9 rfl rfl dX10_append_132 ⟨(apR (rs R 0 (nI 0)) b.length (nz p i2)), ro_ans e9 (rfl) (by rw [show i2 = 4 by omega]; exact ri_app (T := (S, P, V, b, e, u)) (R := rs R 0 (nI 0)) hi rfl (by omega) hA4), rfl⟩
          · have hby2 := byteN_lt (p := p) (k := 3 - i2)
            refine j_iload_n hC dX10_append_84 rfl ?_
            refine j_iload_n hC dX10_append_85 rfl ?_
            refine j_iushr hC dX10_append_86 ?_
            refine j_sipush (v := nI 255) hC dX10_append_87 (by decide) ?_
            refine j_iand hC dX10_append_90 ?_
            refine j_top (ap_byte hk2 (by omega)) ?_
            refine j_istore_4 hC dX10_append_91 (by decide) rfl ?_
            refine j_iload hC dX10_append_93 rfl ?_
            refine n_if_ne (tgt := 101) hC dX10_append_95 (by decide) (by omega) (fun c4 => ?_) (fun c4 => ?_)
            · have hle2 : (nz p i2).length + 1 ≤ (nz p 4).length := by
                have e := nz_le (p := p) (i := i2 + 1)
                rw [nz_s (by omega) (by assumption), List.length_append] at e
                exact e
              refine j_aload_n hC dX10_append_101 rfl (jrf_ref _) ?_
              refine r_get hC kf_X10_13 dX10_append_102 rfl ?_
              refine j_aload_n hC dX10_append_105 rfl (jrf_ref _) ?_
              refine r_getN (x := nI (b.length + (nz p i2).length)) hC kf_X10_96 dX10_append_106 rfl (rfl) ?_
              refine j_iload hC dX10_append_109 rfl ?_
              refine r_ast (k := 4) (j := b.length + (nz p i2).length) hC dX10_append_111 (c := 2) (n := 120) (by decide) (fun _ => rfl) (rO_k4) hB rfl (by omega) (by decide) ?_
              refine j_aload_n hC dX10_append_112 rfl (jrf_ref _) ?_
              refine j_dup hC dX10_append_113 rfl ?_
              refine r_getN (x := nI (b.length + (nz p i2).length)) hC kf_X10_96 dX10_append_114 rfl (rfl) ?_
              refine j_iconst (v := nI 1) hC dX10_append_117 (by decide) ?_
              refine n_iadd hC dX10_append_118 ?_
              refine r_put hC kp_X10_96 dX10_append_119 hB rfl rfl rF_set_5 ?_
              refine j_iinc_3 (v := zI ((k2 + (-8)))) hC dX10_append_122 (zI_add _ (-8)) (by decide) rfl ?_
              refine j_goto (tgt := 80) hC dX10_append_125 (by decide) ?_
              exact j_R (by first | exact congrArg (apR _ _) (nz_z (by omega) (by assumption)).symm | (rw [nz_s (by omega) (by assumption)]; exact apR_s rfl)) (j_L (jle_s (jle_s (jle_s (jle_s (jle_n (jle_0)))))) (ih (i2 + 1) ((k2 + (-8))) (by omega) (by omega) (by omega) (by have := nz_le (p := p) (i := i2 + 1); omega)))
            · refine j_goto (tgt := 122) hC dX10_append_98 (by decide) ?_
              refine j_iinc_3 (v := zI ((k2 + (-8)))) hC dX10_append_122 (zI_add _ (-8)) (by decide) rfl ?_
              refine j_goto (tgt := 80) hC dX10_append_125 (by decide) ?_
              exact j_R (by first | exact congrArg (apR _ _) (nz_z (by omega) (by assumption)).symm | (rw [nz_s (by omega) (by assumption)]; exact apR_s rfl)) (j_L (jle_s (jle_s (jle_s (jle_s (jle_n (jle_0)))))) (ih (i2 + 1) ((k2 + (-8))) (by omega) (by omega) (by omega) (by have := nz_le (p := p) (i := i2 + 1); omega)))
      · refine j_aload_n hC dX10_append_70 rfl (jrf_ref _) ?_
        refine j_iconst (v := nI 2) hC dX10_append_71 (by decide) ?_
        refine r_put hC kp_X10_78 dX10_append_72 hB rfl rfl rF_set_0 ?_
        refine j_iconst (v := nI 0) hC dX10_append_75 (by decide) ?_
        have e9 : opAppend p (S, P, V, b, e, u) = (2, nI (0), (S, P, V, b, e, u)) := app_2 hA4 (by show 120 < b.length + _; omega)
        exact j_iret hC9 rfl rfl dX10_append_76 ⟨(rs (rs R 0 (nI 0)) 0 (nI (2))), ro_ans e9 (rfl) (hi), rfl⟩
    · have hby := byteN_lt (p := p) (k := 3 - i)
      refine j_iload_n hC dX10_append_14 rfl ?_
      refine j_iload_n hC dX10_append_15 rfl ?_
      refine j_iushr hC dX10_append_16 ?_
      refine j_sipush (v := nI 255) hC dX10_append_17 (by decide) ?_
      refine j_iand hC dX10_append_20 ?_
      refine j_top (ap_byte hk (by omega)) ?_
      refine j_istore_4 hC dX10_append_21 (by decide) rfl ?_
      refine j_iload hC dX10_append_23 rfl ?_
      refine n_if_ne (tgt := 31) hC dX10_append_25 (by decide) (by omega) (fun c5 => ?_) (fun c5 => ?_)
      · refine j_iload hC dX10_append_31 rfl ?_
        refine j_bipush (v := nI 32) hC dX10_append_33 (by decide) ?_
        refine j_bipush (v := nI 126) hC dX10_append_35 (by decide) ?_
        refine s_ci3 hC ks_X10_88 dX10_append_37 (m_X10_in) rfl (by decide) (Nat.le_of_ble_eq_true rfl) ?_
        refine j_top (jb_inN (by omega) (by omega) (by omega)) ?_
        refine jb_if_ne (tgt := 50) hC dX10_append_40 (by decide) (fun c6 => ?_) (fun c6 => ?_)
        · refine j_iinc_2 (v := nI (m + 1)) hC dX10_append_50 (nI_add _ _) (by decide) rfl ?_
          refine j_iinc_3 (v := zI ((k + (-8)))) hC dX10_append_53 (zI_add _ (-8)) (by decide) rfl ?_
          refine j_goto (tgt := 10) hC dX10_append_56 (by decide) ?_
          exact j_R (rfl) (j_L (jle_s (jle_s (jle_s (jle_s (jle_n (jle_0)))))) (ih (i + 1) ((k + (-8))) (m + 1) (by omega) (by omega) (by omega) (by first | (rw [nz_z (by omega) (by assumption)]; exact hm2) | (rw [nz_s (by omega) (by assumption), List.length_append, hm2]; rfl)) (by first | exact nzOK_z hA (by omega) (by assumption) | exact nzOK_s hA (by omega) (by assumption) (by assumption))))
        · refine j_aload_n hC dX10_append_43 rfl (jrf_ref _) ?_
          refine j_iconst (v := nI 1) hC dX10_append_44 (by decide) ?_
          refine r_put hC kp_X10_78 dX10_append_45 hB rfl rfl rF_set_0 ?_
          refine j_iconst (v := nI 0) hC dX10_append_48 (by decide) ?_
          have e9 : opAppend p (S, P, V, b, e, u) = (1, nI (0), (S, P, V, b, e, u)) := app_1 (i := i) (by omega) (by assumption) (by assumption)
          exact j_iret hC9 rfl rfl dX10_append_49 ⟨(rs (rs R 0 (nI 0)) 0 (nI (1))), ro_ans e9 (rfl) (hi), rfl⟩
      · refine j_goto (tgt := 53) hC dX10_append_28 (by decide) ?_
        refine j_iinc_3 (v := zI ((k + (-8)))) hC dX10_append_53 (zI_add _ (-8)) (by decide) rfl ?_
        refine j_goto (tgt := 10) hC dX10_append_56 (by decide) ?_
        exact j_R (rfl) (j_L (jle_s (jle_s (jle_s (jle_s (jle_n (jle_0)))))) (ih (i + 1) ((k + (-8))) (m) (by omega) (by omega) (by omega) (by first | (rw [nz_z (by omega) (by assumption)]; exact hm2) | (rw [nz_s (by omega) (by assumption), List.length_append, hm2]; rfl)) (by first | exact nzOK_z hA (by omega) (by assumption) | exact nzOK_s hA (by omega) (by assumption) (by assumption))))
