def unA : Option aRun → Int32 → Nat
  | none, _ => 1
  | some L, v => if jin v L.length = true then 0 else 2
def ranN (L : aRun) (k : Nat) : Nat := cntTo (fun r => decide ((ranAt L r).1 = k)) L.length
theorem ran_some {u : Option aRun} (h : 0 ≤ ranZ u) : ∃ L, u = some L := by
  cases u with
  | none => exact absurd h (by decide)
  | some L => exact ⟨L, rfl⟩
theorem ran_none {u : Option aRun} (h : ranZ u < 0) : u = none := by
  cases u with
  | none => rfl
  | some L => simp only [ranZ] at h; omega
theorem jb_in0 {v : Int32} {n : Nat} (hn : n < 2 ^ 31) : jb (nI 0 ≤ v ∧ v ≤ zI ((n : Int) - ((1 : Nat) : Int))) = jb (jin v n = true) := by
  have h := jb_in (v := v) hn
  rwa [nI_zI n, nI_zI 1, zI_sub] at h
theorem unA_some {L : aRun} {v : Int32} : unA (some L) v = if jin v L.length = true then 0 else 2 := rfl
theorem jb_inR {u : Option aRun} {L : aRun} {v : Int32} (hn : L.length < 2 ^ 31) (hu : u = some L) : jb (nI 0 ≤ v ∧ v ≤ zI (ranZ u - ((1 : Nat) : Int))) = jb (jin v L.length = true) := by
  subst hu
  exact jb_in0 hn
theorem unA_0 {u : Option aRun} {v : Int32} (h : unA u v = 0) : ∃ L, u = some L ∧ jin v L.length = true := by
  cases u with
  | none =>
    have h1 : 1 = 0 := h
    omega
  | some L =>
    refine ⟨L, rfl, ?_⟩
    rw [unA_some] at h
    by_cases e : jin v L.length = true
    · exact e
    · rw [if_neg e] at h
      omega
theorem unA_le {u : Option aRun} {v : Int32} : unA u v ≤ 2 := by
  cases u with
  | none => exact Nat.le_succ 1
  | some L => simp only [unA]; split <;> omega
theorem ri_rz {R : rR} {T : aSt} (h : rInv R T) : -1 ≤ ranZ (tRun T) ∧ ranZ (tRun T) ≤ 20 := by
  have h2 := ri_rr h
  cases he : tRun T with
  | none => simp only [ranZ]; omega
  | some L => have := h2 L he; simp only [ranZ]; omega
set_option maxHeartbeats 4000000 in
set_option maxRecDepth 100000 in
theorem m_X10_unasked {R : rR} {T : aSt} {v : Int32} (hi : rInv R T) : RI jX10_unasked 1 [.int v] R (nI (unA (tRun T) v)) R := by
  intro G o M0 hs hBo
  refine jMet_of [some (.ref o), some (.int v)] (by decide) rfl (Nat.le_of_ble_eq_true rfl) rfl hs ?_
  intro C hC9 hG
  have hC := hC9.z
  have hB : jB C ≤ o := by rw [jB, hG]; exact hBo
  have hrz := ri_rz hi
  refine j_aload_n hC dX10_unasked_0 rfl (jrf_ref _) ?_
  refine r_getN (x := zI (ranZ (tRun T))) hC kf_X10_60 dX10_unasked_1 rfl (ri_rm hi) ?_
  refine z_if_ge (a := (ranZ (tRun T))) (tgt := 11) hC dX10_unasked_4 (by decide) (by unfold zB; omega) (fun c1 => ?_) (fun c1 => ?_)
  · obtain ⟨L9, hu⟩ := ran_some (u := tRun T) (by assumption)
    have hn9 : L9.length < 2 ^ 31 := by have := (ri_rr hi L9 hu).2.1; omega
    refine j_iload_n hC dX10_unasked_11 rfl ?_
    refine j_iconst (v := nI 0) hC dX10_unasked_12 (by decide) ?_
    refine j_aload_n hC dX10_unasked_13 rfl (jrf_ref _) ?_
    refine r_getN (x := zI (ranZ (tRun T))) hC kf_X10_60 dX10_unasked_14 rfl (ri_rm hi) ?_
    refine j_iconst (v := nI 1) hC dX10_unasked_17 (by decide) ?_
    refine z_isub (a := (ranZ (tRun T))) (b := ((1 : Nat) : Int)) hC dX10_unasked_18 ?_
    refine s_ci3 hC ks_X10_88 dX10_unasked_19 (m_X10_in) rfl (by decide) (Nat.le_of_ble_eq_true rfl) ?_
    refine j_top (jb_inR hn9 hu) ?_
    refine jb_if_eq (tgt := 29) hC dX10_unasked_22 (by decide) (fun c2 => ?_) (fun c2 => ?_)
    · refine j_iconst (v := nI 2) hC dX10_unasked_29 (by decide) ?_
      exact j_iret hC9 rfl rfl dX10_unasked_30 ⟨_, ⟨(jv (by rw [hu, unA, if_neg (by assumption)])), rfl⟩, rfl⟩
    · refine j_iconst (v := nI 0) hC dX10_unasked_25 (by decide) ?_
      refine j_goto (tgt := 30) hC dX10_unasked_26 (by decide) ?_
      exact j_iret hC9 rfl rfl dX10_unasked_30 ⟨_, ⟨(jv (by rw [hu, unA, if_pos (by assumption)])), rfl⟩, rfl⟩
  · refine j_iconst (v := nI 1) hC dX10_unasked_7 (by decide) ?_
    refine j_goto (tgt := 30) hC dX10_unasked_8 (by decide) ?_
    exact j_iret hC9 rfl rfl dX10_unasked_30 ⟨_, ⟨(jv (by rw [ran_none (u := tRun T) (by assumption)]; rfl)), rfl⟩, rfl⟩
set_option maxHeartbeats 4000000 in
set_option maxRecDepth 100000 in
theorem m_X10_ranWith {R : rR} {T : aSt} {L : aRun} {k : Nat} (hi : rInv R T) (hu : tRun T = some L) (hk : k ≤ 4) : RI jX10_ranWith 0 [.int (nI k)] R (nI (ranN L k)) R := by
  intro G o M0 hs hBo
  refine jMet_of [some (.ref o), some (.int (nI k)), none, none] (by decide) rfl (Nat.le_of_ble_eq_true rfl) rfl hs ?_
  intro C hC9 hG
  have hC := hC9.z
  have hB : jB C ≤ o := by rw [jB, hG]; exact hBo
  have hrr := ri_rr hi L hu
  have hrn : R.1 30 = nI L.length := by rw [ri_rm hi, hu]; rfl
  have hr4 : ∀ r, r < L.length → (ranAt L r).1 ≤ 4 := fun r hr => (hrr.2.2 r hr).1
  refine j_iconst (v := nI 0) hC dX10_ranWith_0 (by decide) ?_
  refine j_istore_n2 hC dX10_ranWith_1 (by decide) rfl ?_
  refine j_iconst (v := nI 0) hC dX10_ranWith_2 (by decide) ?_
  refine j_istore_n3 hC dX10_ranWith_3 (by decide) rfl ?_
  suffices K : ∀ (n9 : Nat) (r : Nat), L.length - r < n9 → (r ≤ L.length) → J C (rM o M0 (R)) 0 0 4 [some (.ref o), some (.int (nI (k))), some (.int (nI (cntTo (fun r => decide ((ranAt L r).1 = k)) r))), some (.int (nI (r)))] [] from j_R (rfl) (K _ (0) (Nat.lt_succ_self _) (Nat.zero_le _))
  intro n9
  induction n9 with
  | zero => intro r hm; omega
  | succ n9 ih =>
    intro r hm hr
    refine j_iload_n hC dX10_ranWith_4 rfl ?_
    refine j_aload_n hC dX10_ranWith_5 rfl (jrf_ref _) ?_
    refine r_getN (x := nI (L.length)) hC kf_X10_60 dX10_ranWith_6 rfl (hrn) ?_
    refine n_icmp_ge (tgt := 36) hC dX10_ranWith_9 (by decide) (by omega) (by omega) (fun c1 => ?_) (fun c1 => ?_)
    · refine j_iload_n hC dX10_ranWith_36 rfl ?_
      exact j_iret hC9 rfl rfl dX10_ranWith_37 ⟨_, ⟨(jv (by rw [show r = L.length by omega]; rfl)), rfl⟩, rfl⟩
    · have hr5 := hr4 r (by omega)
      refine j_iload_n hC dX10_ranWith_12 rfl ?_
      refine j_aload_n hC dX10_ranWith_13 rfl (jrf_ref _) ?_
      refine r_get hC kf_X10_63 dX10_ranWith_14 rfl ?_
      refine j_iload_n hC dX10_ranWith_17 rfl ?_
      refine r_aldN (k := 31) (j := r) (x := nI ((ranAt L (r)).1)) hC dX10_ranWith_18 (c := 16) (n := 20) (by decide) rfl rfl (by omega) (by decide) ((hrr.2.2 _ (by omega)).2.2.2.1) ?_
      refine j_iload_n hC dX10_ranWith_19 rfl ?_
      suffices K : J C (rM o M0 (R)) 0 0 28 [some (.ref o), some (.int (nI (k))), some (.int (nI (cntTo (fun r => decide ((ranAt L r).1 = k)) r))), some (.int (nI (r)))] [.int (nI (if decide ((ranAt L r).1 = k) = true then 1 else 0)), .int (nI (cntTo (fun r => decide ((ranAt L r).1 = k)) r))] by
        refine n_icmp_ne (tgt := 27) hC dX10_ranWith_20 (by decide) (by omega) (by omega) (fun c2 => ?_) (fun c2 => ?_)
        · refine j_iconst (v := nI 0) hC dX10_ranWith_27 (by decide) ?_
          exact j_top (by first | rw [if_pos (decide_eq_true (by assumption))] | rw [if_neg (by simp only [decide_eq_true_eq]; assumption)]) K
        · refine j_iconst (v := nI 1) hC dX10_ranWith_23 (by decide) ?_
          refine j_goto (tgt := 28) hC dX10_ranWith_24 (by decide) ?_
          exact j_top (by first | rw [if_pos (decide_eq_true (by assumption))] | rw [if_neg (by simp only [decide_eq_true_eq]; assumption)]) K
      refine n_iadd hC dX10_ranWith_28 ?_
      refine j_istore_n2 hC dX10_ranWith_29 (by decide) rfl ?_
      refine j_iinc_3 (v := nI (r + 1)) hC dX10_ranWith_30 (nI_add _ _) (by decide) rfl ?_
      refine j_goto (tgt := 4) hC dX10_ranWith_33 (by decide) ?_
      exact j_R (rfl) (ih (r + 1) (by omega) (by omega))
def opReason (v : Int32) (T : aSt) : aAns := match tRun T with
  | none => (1, 0, T)
  | some L => if jin v L.length = true then (0, nI (ranAt L (toN v)).1, T) else (2, 0, T)
def opReasons (k : Int32) (T : aSt) : aAns := match tRun T with
  | none => (1, 0, T)
  | some L => if jin k 5 = true then (0, nI (ranN L (toN k)), T) else (2, 0, T)
def opLetter (v i : Int32) (T : aSt) : aAns := match tRun T with
  | none => (1, 0, T)
  | some L => if jin v L.length = true then
      if (ranAt L (toN v)).1 = 0 then
        if i = -1 then (0, nI (ranAt L (toN v)).2.1.length, T)
        else if jin i (ranAt L (toN v)).2.1.length = true then (0, nI ((ranAt L (toN v)).2.1.getD (toN i) 0), T) else (4, 0, T)
      else (3, 0, T)
    else (2, 0, T)
def opChain (v i : Int32) (T : aSt) : aAns := match tRun T with
  | none => (1, 0, T)
  | some L => if jin v L.length = true then
      if (ranAt L (toN v)).1 < 3 then (3, 0, T)
      else if jin i (ranAt L (toN v)).2.2.length = true then (0, nI ((ranAt L (toN v)).2.2.getD (toN i) 0), T) else (4, 0, T)
    else (2, 0, T)
section OW
variable {T : aSt} {v i : Int32} {L : aRun} {r k : Nat}
theorem rsn_e (h : ¬ unA (tRun T) v = 0) : opReason v T = (unA (tRun T) v, nI 0, T) := by
  unfold opReason
  cases hu : tRun T with
  | none => rfl
  | some L =>
    rw [hu, unA_some] at h
    have e : ¬ jin v L.length = true := fun e => h (if_pos e)
    rw [unA_some, if_neg e]
    exact if_neg e
theorem rsn_0 (hu : tRun T = some L) (hr : r < L.length) (hl : L.length ≤ 20) : opReason (nI r) T = (0, nI (ranAt L r).1, T) := by
  unfold opReason
  rw [hu]
  refine (if_pos (by rw [jin_nI (by omega)]; exact decide_eq_true hr)).trans ?_
  rw [toN_nI (by omega)]
theorem rss_1 (h : tRun T = none) : opReasons v T = (1, nI 0, T) := by
  unfold opReasons
  rw [h]
  rfl
theorem rss_2 (hu : tRun T = some L) (h : ¬ jin v 5 = true) : opReasons v T = (2, nI 0, T) := by
  unfold opReasons
  rw [hu]
  exact if_neg h
theorem rss_0 (hu : tRun T = some L) (h : k < 5) : opReasons (nI k) T = (0, nI (ranN L k), T) := by
  unfold opReasons
  rw [hu]
  refine (if_pos (by rw [jin_nI (by omega)]; exact decide_eq_true h)).trans ?_
  rw [toN_nI (by omega)]
end OW
set_option maxHeartbeats 4000000 in
set_option maxRecDepth 100000 in
theorem o_X10_reason {v : Int32} : ROp jX10_reason 2 [.int v] (opReason v) := by
  intro R T hi
  obtain ⟨S, P, V, b, e, u⟩ := T
  intro G o M0 hs hBo
  refine jMet_of [some (.ref o), some (.int v)] (by decide) rfl (Nat.le_of_ble_eq_true rfl) rfl hs ?_
  intro C hC9 hG
  have hC := hC9.z
  have hB : jB C ≤ o := by rw [jB, hG]; exact hBo
  have hp : rPre R S := ri_pre hi
  have h20 := rp_n20 hp
  have hP8 : P.length ≤ 8 := ri_pn hi
  have hb120 : b.length ≤ 120 := ri_bn hi
  refine j_aload_n hC dX10_reason_0 rfl (jrf_ref _) ?_
  refine j_aload_n hC dX10_reason_1 rfl (jrf_ref _) ?_
  refine j_iload_n hC dX10_reason_2 rfl ?_
  refine r_ci1 hC kv_X10_262 dX10_reason_3 (m_X10_unasked (R := R) (T := (S, P, V, b, e, u)) (v := v) hi) hB rfl (by decide) (Nat.le_of_ble_eq_true rfl) ?_
  refine r_put hC kp_X10_78 dX10_reason_6 hB rfl rfl rF_set_0 ?_
  have hun := unA_le (u := u) (v := v)
  refine j_aload_n hC dX10_reason_9 rfl (jrf_ref _) ?_
  refine r_getN (x := nI (unA u (v))) hC kf_X10_78 dX10_reason_10 rfl (rfl) ?_
  refine n_if_ne (tgt := 25) hC dX10_reason_13 (by decide) (by omega) (fun c1 => ?_) (fun c1 => ?_)
  · refine j_iconst (v := nI 0) hC dX10_reason_25 (by decide) ?_
    have e9 : opReason v (S, P, V, b, e, u) = (unA u v, nI (0), (S, P, V, b, e, u)) := rsn_e (T := (S, P, V, b, e, u)) (by assumption)
    exact j_iret hC9 rfl rfl dX10_reason_26 ⟨(rs R 0 (nI (unA u (v)))), ro_ans e9 (rfl) (hi), rfl⟩
  · obtain ⟨L9, hu, hj9⟩ := unA_0 (by assumption : unA u v = 0)
    have hrr := ri_rr hi L9 hu
    have hL20 := hrr.2.1
    obtain ⟨r9, hr9, rfl⟩ := jin_of hj9 (by omega)
    have hr8 := hrr.2.2 r9 hr9
    have hu0 : unA u (nI r9) = 0 := by assumption
    refine j_aload_n hC dX10_reason_16 rfl (jrf_ref _) ?_
    refine r_get hC kf_X10_63 dX10_reason_17 rfl ?_
    refine j_iload_n hC dX10_reason_20 rfl ?_
    refine r_aldN (k := 31) (j := r9) (x := nI ((ranAt L9 r9).1)) hC dX10_reason_21 (c := 16) (n := 20) (by decide) rfl rfl (by omega) (by decide) (hr8.2.2.2.1) ?_
    refine j_goto (tgt := 26) hC dX10_reason_22 (by decide) ?_
    have e9 : opReason (nI r9) (S, P, V, b, e, u) = (0, nI ((ranAt L9 r9).1), (S, P, V, b, e, u)) := rsn_0 (T := (S, P, V, b, e, u)) hu hr9 hL20
    exact j_iret hC9 rfl rfl dX10_reason_26 ⟨(rs R 0 (nI (unA u (nI r9)))), ro_ans e9 (by show nI (unA u (nI r9)) = nI 0; rw [hu0]) (hi), rfl⟩
set_option maxHeartbeats 4000000 in
set_option maxRecDepth 100000 in
theorem o_X10_reasons {v : Int32} : ROp jX10_reasons 2 [.int v] (opReasons v) := by
  intro R T hi
  obtain ⟨S, P, V, b, e, u⟩ := T
  intro G o M0 hs hBo
  refine jMet_of [some (.ref o), some (.int v)] (by decide) rfl (Nat.le_of_ble_eq_true rfl) rfl hs ?_
  intro C hC9 hG
  have hC := hC9.z
  have hB : jB C ≤ o := by rw [jB, hG]; exact hBo
  have hp : rPre R S := ri_pre hi
  have h20 := rp_n20 hp
  have hP8 : P.length ≤ 8 := ri_pn hi
  have hb120 : b.length ≤ 120 := ri_bn hi
  have hrz : -1 ≤ ranZ u ∧ ranZ u ≤ 20 := ri_rz hi
  refine j_aload_n hC dX10_reasons_0 rfl (jrf_ref _) ?_
  refine j_aload_n hC dX10_reasons_1 rfl (jrf_ref _) ?_
  refine r_getN (x := zI (ranZ u)) hC kf_X10_60 dX10_reasons_2 rfl (ri_rm hi) ?_
  refine z_if_ge (a := (ranZ u)) (tgt := 12) hC dX10_reasons_5 (by decide) (by unfold zB; omega) (fun c1 => ?_) (fun c1 => ?_)
  · obtain ⟨L9, hu⟩ := ran_some (u := u) (by assumption)
    refine j_iload_n hC dX10_reasons_12 rfl ?_
    refine j_iconst (v := nI 0) hC dX10_reasons_13 (by decide) ?_
    refine j_iconst (v := nI 4) hC dX10_reasons_14 (by decide) ?_
    refine s_ci3 hC ks_X10_88 dX10_reasons_15 (m_X10_in) rfl (by decide) (Nat.le_of_ble_eq_true rfl) ?_
    refine j_top (jb_in9 (by decide)) ?_
    refine jb_if_eq (tgt := 25) hC dX10_reasons_18 (by decide) (fun c2 => ?_) (fun c2 => ?_)
    · refine j_iconst (v := nI 2) hC dX10_reasons_25 (by decide) ?_
      refine r_put hC kp_X10_78 dX10_reasons_26 hB rfl rfl rF_set_0 ?_
      refine j_aload_n hC dX10_reasons_29 rfl (jrf_ref _) ?_
      refine r_getN (x := nI (2)) hC kf_X10_78 dX10_reasons_30 rfl (rfl) ?_
      refine n_if_ne (tgt := 44) hC dX10_reasons_33 (by decide) (by omega) (fun c3 => ?_) (fun c3 => ?_)
      · refine j_iconst (v := nI 0) hC dX10_reasons_44 (by decide) ?_
        have e9 : opReasons v (S, P, V, b, e, u) = (2, nI (0), (S, P, V, b, e, u)) := rss_2 (T := (S, P, V, b, e, u)) hu (by assumption)
        exact j_iret hC9 rfl rfl dX10_reasons_45 ⟨(rs R 0 (nI (2))), ro_ans e9 (rfl) (hi), rfl⟩
      · exact absurd c3 (by decide)
    · refine j_iconst (v := nI 0) hC dX10_reasons_21 (by decide) ?_
      refine j_goto (tgt := 26) hC dX10_reasons_22 (by decide) ?_
      refine r_put hC kp_X10_78 dX10_reasons_26 hB rfl rfl rF_set_0 ?_
      refine j_aload_n hC dX10_reasons_29 rfl (jrf_ref _) ?_
      refine r_getN (x := nI (0)) hC kf_X10_78 dX10_reasons_30 rfl (rfl) ?_
      refine n_if_ne (tgt := 44) hC dX10_reasons_33 (by decide) (by omega) (fun c4 => ?_) (fun c4 => ?_)
      · exact absurd c4 (by decide)
      · obtain ⟨v9, hv9, rfl⟩ := jin_of (by assumption : jin v 5 = true) (by decide)
        refine j_aload_n hC dX10_reasons_36 rfl (jrf_ref _) ?_
        refine j_iload_n hC dX10_reasons_37 rfl ?_
        refine r_ci1 hC kv_X10_265 dX10_reasons_38 (m_X10_ranWith (R := (rs R 0 (nI (0)))) (T := (S, P, V, b, e, u)) (L := L9) (k := v9) hi hu (by omega)) hB rfl (by decide) (Nat.le_of_ble_eq_true rfl) ?_
        refine j_goto (tgt := 45) hC dX10_reasons_41 (by decide) ?_
        have e9 : opReasons (nI v9) (S, P, V, b, e, u) = (0, nI (ranN L9 (v9)), (S, P, V, b, e, u)) := rss_0 (T := (S, P, V, b, e, u)) hu hv9
        exact j_iret hC9 rfl rfl dX10_reasons_45 ⟨(rs R 0 (nI (0))), ro_ans e9 (rfl) (hi), rfl⟩
  · refine j_iconst (v := nI 1) hC dX10_reasons_8 (by decide) ?_
    refine j_goto (tgt := 26) hC dX10_reasons_9 (by decide) ?_
    refine r_put hC kp_X10_78 dX10_reasons_26 hB rfl rfl rF_set_0 ?_
    refine j_aload_n hC dX10_reasons_29 rfl (jrf_ref _) ?_
    refine r_getN (x := nI (1)) hC kf_X10_78 dX10_reasons_30 rfl (rfl) ?_
    refine n_if_ne (tgt := 44) hC dX10_reasons_33 (by decide) (by omega) (fun c5 => ?_) (fun c5 => ?_)
    · refine j_iconst (v := nI 0) hC dX10_reasons_44 (by decide) ?_
      have e9 : opReasons v (S, P, V, b, e, u) = (1, nI (0), (S, P, V, b, e, u)) := rss_1 (T := (S, P, V, b, e, u)) (ran_none (by assumption))
      exact j_iret hC9 rfl rfl dX10_reasons_45 ⟨(rs R 0 (nI (1))), ro_ans e9 (rfl) (hi), rfl⟩
    · exact absurd c5 (by decide)
