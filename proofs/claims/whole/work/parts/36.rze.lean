section OX
variable {T : aSt} {v i : Int32} {L : aRun} {r j : Nat}
theorem ltr_e (h : ¬ unA (tRun T) v = 0) : opLetter v i T = (unA (tRun T) v, nI 0, T) := by
  unfold opLetter
  cases hu : tRun T with
  | none => rfl
  | some L =>
    rw [hu, unA_some] at h
    have e : ¬ jin v L.length = true := fun e => h (if_pos e)
    rw [unA_some, if_neg e]
    exact if_neg e
theorem ltr_c (hu : tRun T = some L) (hr : r < L.length) (hl : L.length ≤ 20) : opLetter (nI r) i T = if (ranAt L r).1 = 0 then
        if i = -1 then (0, nI (ranAt L r).2.1.length, T)
        else if jin i (ranAt L r).2.1.length = true then (0, nI ((ranAt L r).2.1.getD (toN i) 0), T) else (4, 0, T)
      else (3, 0, T) := by
  unfold opLetter
  rw [hu]
  refine (if_pos (by rw [jin_nI (by omega)]; exact decide_eq_true hr)).trans ?_
  rw [toN_nI (by omega)]
theorem ltr_3 (hu : tRun T = some L) (hr : r < L.length) (hl : L.length ≤ 20) (h : ¬ (ranAt L r).1 = 0) : opLetter (nI r) i T = (3, nI 0, T) := by
  rw [ltr_c hu hr hl, if_neg h]
  rfl
theorem ltr_4 (hu : tRun T = some L) (hr : r < L.length) (hl : L.length ≤ 20) (h : (ranAt L r).1 = 0) (h2 : ¬ (i = -1 ∨ jin i (ranAt L r).2.1.length = true)) : opLetter (nI r) i T = (4, nI 0, T) := by
  rw [ltr_c hu hr hl, if_pos h, if_neg (fun e => h2 (Or.inl e)), if_neg (fun e => h2 (Or.inr e))]
  rfl
theorem ltr_n (hu : tRun T = some L) (hr : r < L.length) (hl : L.length ≤ 20) (h : (ranAt L r).1 = 0) (h2 : i = -1 ∨ jin i (ranAt L r).2.1.length = true) (h3 : i < 0) : opLetter (nI r) i T = (0, nI (ranAt L r).2.1.length, T) := by
  rw [ltr_c hu hr hl, if_pos h, if_pos]
  refine h2.elim id (fun e => ?_)
  rw [jin_iff] at e
  exact absurd (Or.inl h3) e
theorem ne_m1 (hj : j < 2 ^ 31) : ¬ nI j = -1 := by
  intro e
  have e2 := congrArg Int32.toInt e
  rw [nI_toInt hj] at e2
  have e3 : (-1 : Int32).toInt = -1 := by decide
  omega
theorem ltr_i (hu : tRun T = some L) (hr : r < L.length) (hl : L.length ≤ 20) (h : (ranAt L r).1 = 0) (h2 : j < (ranAt L r).2.1.length) (hj : j < 2 ^ 31) : opLetter (nI r) (nI j) T = (0, nI ((ranAt L r).2.1.getD j 0), T) := by
  rw [ltr_c hu hr hl, if_pos h, if_neg (ne_m1 hj), if_pos (by rw [jin_nI hj]; exact decide_eq_true h2), toN_nI hj]
theorem chn_e (h : ¬ unA (tRun T) v = 0) : opChain v i T = (unA (tRun T) v, nI 0, T) := by
  unfold opChain
  cases hu : tRun T with
  | none => rfl
  | some L =>
    rw [hu, unA_some] at h
    have e : ¬ jin v L.length = true := fun e => h (if_pos e)
    rw [unA_some, if_neg e]
    exact if_neg e
theorem chn_c (hu : tRun T = some L) (hr : r < L.length) (hl : L.length ≤ 20) : opChain (nI r) i T = if (ranAt L r).1 < 3 then (3, 0, T)
      else if jin i (ranAt L r).2.2.length = true then (0, nI ((ranAt L r).2.2.getD (toN i) 0), T) else (4, 0, T) := by
  unfold opChain
  rw [hu]
  refine (if_pos (by rw [jin_nI (by omega)]; exact decide_eq_true hr)).trans ?_
  rw [toN_nI (by omega)]
theorem chn_3 (hu : tRun T = some L) (hr : r < L.length) (hl : L.length ≤ 20) (h : (ranAt L r).1 < 3) : opChain (nI r) i T = (3, nI 0, T) := by
  rw [chn_c hu hr hl, if_pos h]
  rfl
theorem chn_4 (hu : tRun T = some L) (hr : r < L.length) (hl : L.length ≤ 20) (h : 3 ≤ (ranAt L r).1) (h2 : ¬ jin i (ranAt L r).2.2.length = true) : opChain (nI r) i T = (4, nI 0, T) := by
  rw [chn_c hu hr hl, if_neg (by omega), if_neg h2]
  rfl
theorem chn_0 (hu : tRun T = some L) (hr : r < L.length) (hl : L.length ≤ 20) (h : 3 ≤ (ranAt L r).1) (h2 : j < (ranAt L r).2.2.length) (hj : j < 2 ^ 31) : opChain (nI r) (nI j) T = (0, nI ((ranAt L r).2.2.getD j 0), T) := by
  rw [chn_c hu hr hl, if_neg (by omega), if_pos (by rw [jin_nI hj]; exact decide_eq_true h2), toN_nI hj]
end OX
set_option maxHeartbeats 4000000 in
set_option maxRecDepth 100000 in
theorem o_X10_letter {v i : Int32} : ROp jX10_letter 2 [.int v, .int i] (opLetter v i) := by
  intro R T hi
  obtain ⟨S, P, V, b, e, u⟩ := T
  intro G o M0 hs hBo
  refine jMet_of [some (.ref o), some (.int v), some (.int i)] (by decide) rfl (Nat.le_of_ble_eq_true rfl) rfl hs ?_
  intro C hC9 hG
  have hC := hC9.z
  have hB : jB C ≤ o := by rw [jB, hG]; exact hBo
  have hp : rPre R S := ri_pre hi
  have h20 := rp_n20 hp
  have hP8 : P.length ≤ 8 := ri_pn hi
  have hb120 : b.length ≤ 120 := ri_bn hi
  refine j_aload_n hC dX10_letter_0 rfl (jrf_ref _) ?_
  refine j_aload_n hC dX10_letter_1 rfl (jrf_ref _) ?_
  refine j_iload_n hC dX10_letter_2 rfl ?_
  refine r_ci1 hC kv_X10_262 dX10_letter_3 (m_X10_unasked (R := R) (T := (S, P, V, b, e, u)) (v := v) hi) hB rfl (by decide) (Nat.le_of_ble_eq_true rfl) ?_
  refine r_put hC kp_X10_78 dX10_letter_6 hB rfl rfl rF_set_0 ?_
  have hun := unA_le (u := u) (v := v)
  refine j_aload_n hC dX10_letter_9 rfl (jrf_ref _) ?_
  refine r_getN (x := nI (unA u (v))) hC kf_X10_78 dX10_letter_10 rfl (rfl) ?_
  refine n_if_ne (tgt := 54) hC dX10_letter_13 (by decide) (by omega) (fun c1 => ?_) (fun c1 => ?_)
  · refine j_aload_n hC dX10_letter_54 rfl (jrf_ref _) ?_
    refine r_getN (x := nI (unA u (v))) hC kf_X10_78 dX10_letter_55 rfl (rfl) ?_
    refine n_if_eq (tgt := 65) hC dX10_letter_58 (by decide) (by omega) (fun c2 => ?_) (fun c2 => ?_)
    · exact (show False by omega).elim
    · refine j_iconst (v := nI 0) hC dX10_letter_61 (by decide) ?_
      refine j_goto (tgt := 90) hC dX10_letter_62 (by decide) ?_
      have e9 : opLetter v i (S, P, V, b, e, u) = (unA u v, nI (0), (S, P, V, b, e, u)) := ltr_e (T := (S, P, V, b, e, u)) (by assumption)
      exact j_iret hC9 rfl rfl dX10_letter_90 ⟨(rs R 0 (nI (unA u (v)))), ro_ans e9 (rfl) (hi), rfl⟩
  · obtain ⟨L9, hu, hj9⟩ := unA_0 (by assumption : unA u v = 0)
    have hrr := ri_rr hi L9 hu
    have hL20 := hrr.2.1
    obtain ⟨r9, hr9, rfl⟩ := jin_of hj9 (by omega)
    have hr8 := hrr.2.2 r9 hr9
    have hu0 : unA u (nI r9) = 0 := by assumption
    refine j_aload_n hC dX10_letter_16 rfl (jrf_ref _) ?_
    refine j_aload_n hC dX10_letter_17 rfl (jrf_ref _) ?_
    refine r_get hC kf_X10_63 dX10_letter_18 rfl ?_
    refine j_iload_n hC dX10_letter_21 rfl ?_
    refine r_aldN (k := 31) (j := r9) (x := nI ((ranAt L9 r9).1)) hC dX10_letter_22 (c := 16) (n := 20) (by decide) rfl rfl (by omega) (by decide) (hr8.2.2.2.1) ?_
    have hlen : (ranAt L9 r9).2.1.length ≤ 200 := hr8.2.1
    have hrs4 := hr8.1
    refine n_if_eq (tgt := 30) hC dX10_letter_23 (by decide) (by omega) (fun c3 => ?_) (fun c3 => ?_)
    · refine j_iload_n hC dX10_letter_30 rfl ?_
      refine j_iconst (v := zI (-1)) hC dX10_letter_31 (by decide) ?_
      refine j_aload_n hC dX10_letter_32 rfl (jrf_ref _) ?_
      refine r_get hC kf_X10_66 dX10_letter_33 rfl ?_
      refine j_iload_n hC dX10_letter_36 rfl ?_
      refine r_aldN (k := 32) (j := r9) (x := nI ((ranAt L9 r9).2.1.length)) hC dX10_letter_37 (c := 17) (n := 20) (by decide) rfl rfl (by omega) (by decide) (hr8.2.2.2.2.1) ?_
      refine j_iconst (v := nI 1) hC dX10_letter_38 (by decide) ?_
      refine z_isub (a := (((ranAt L9 r9).2.1.length : Nat) : Int)) (b := ((1 : Nat) : Int)) hC dX10_letter_39 ?_
      refine s_ci3 hC ks_X10_88 dX10_letter_40 (m_X10_in) rfl (by decide) (Nat.le_of_ble_eq_true rfl) ?_
      refine jb_if_eq (tgt := 50) hC dX10_letter_43 (by decide) (fun c4 => ?_) (fun c4 => ?_)
      · refine j_iconst (v := nI 4) hC dX10_letter_50 (by decide) ?_
        refine r_put hC kp_X10_78 dX10_letter_51 hB rfl rfl rF_set_0 ?_
        refine j_aload_n hC dX10_letter_54 rfl (jrf_ref _) ?_
        refine r_getN (x := nI (4)) hC kf_X10_78 dX10_letter_55 rfl (rfl) ?_
        refine n_if_eq (tgt := 65) hC dX10_letter_58 (by decide) (by omega) (fun c5 => ?_) (fun c5 => ?_)
        · exact absurd c5 (by decide)
        · refine j_iconst (v := nI 0) hC dX10_letter_61 (by decide) ?_
          refine j_goto (tgt := 90) hC dX10_letter_62 (by decide) ?_
          have e9 : opLetter (nI r9) i (S, P, V, b, e, u) = (4, nI (0), (S, P, V, b, e, u)) := ltr_4 (T := (S, P, V, b, e, u)) hu hr9 hL20 (by assumption) (fun h => absurd ((in_m1 (n := (ranAt L9 r9).2.1.length) (by omega)).mpr h) (by assumption))
          exact j_iret hC9 rfl rfl dX10_letter_90 ⟨(rs (rs R 0 (nI (unA u (nI r9)))) 0 (nI (4))), ro_ans e9 (rfl) (hi), rfl⟩
      · refine j_iconst (v := nI 0) hC dX10_letter_46 (by decide) ?_
        refine j_goto (tgt := 51) hC dX10_letter_47 (by decide) ?_
        refine r_put hC kp_X10_78 dX10_letter_51 hB rfl rfl rF_set_0 ?_
        refine j_aload_n hC dX10_letter_54 rfl (jrf_ref _) ?_
        refine r_getN (x := nI (0)) hC kf_X10_78 dX10_letter_55 rfl (rfl) ?_
        refine n_if_eq (tgt := 65) hC dX10_letter_58 (by decide) (by omega) (fun c6 => ?_) (fun c6 => ?_)
        · refine j_iload_n hC dX10_letter_65 rfl ?_
          refine j_if_ge (tgt := 78) hC dX10_letter_66 (by decide) (fun c7 => ?_) (fun c7 => ?_)
          · have hj7 : jin i (ranAt L9 r9).2.1.length = true := ((in_m1 (by omega)).mp (by assumption)).elim (fun e => absurd (e ▸ (by assumption : (0 : Int32) ≤ i)) (by decide)) id
            obtain ⟨j9, hj8, rfl⟩ := jin_of hj7 (by omega)
            refine j_aload_n hC dX10_letter_78 rfl (jrf_ref _) ?_
            refine r_get hC kf_X10_69 dX10_letter_79 rfl ?_
            refine j_sipush (v := nI 200) hC dX10_letter_82 (by decide) ?_
            refine j_iload_n hC dX10_letter_85 rfl ?_
            refine n_imul hC dX10_letter_86 ?_
            refine j_iload_n hC dX10_letter_87 rfl ?_
            refine n_iadd hC dX10_letter_88 ?_
            refine r_aldN (k := 33) (j := (200 * r9) + (j9)) (x := nI ((ranAt L9 r9).2.1.getD j9 0)) hC dX10_letter_89 (c := 18) (n := 4000) (by decide) rfl rfl (by omega) (by decide) (hr8.2.2.2.2.2.1 _ hj8) ?_
            have e9 : opLetter (nI r9) (nI j9) (S, P, V, b, e, u) = (0, nI ((ranAt L9 r9).2.1.getD j9 0), (S, P, V, b, e, u)) := ltr_i (T := (S, P, V, b, e, u)) hu hr9 hL20 (by assumption) hj8 (by omega)
            exact j_iret hC9 rfl rfl dX10_letter_90 ⟨(rs (rs R 0 (nI (unA u (nI r9)))) 0 (nI (0))), ro_ans e9 (rfl) (hi), rfl⟩
          · refine j_aload_n hC dX10_letter_69 rfl (jrf_ref _) ?_
            refine r_get hC kf_X10_66 dX10_letter_70 rfl ?_
            refine j_iload_n hC dX10_letter_73 rfl ?_
            refine r_aldN (k := 32) (j := r9) (x := nI ((ranAt L9 r9).2.1.length)) hC dX10_letter_74 (c := 17) (n := 20) (by decide) rfl rfl (by omega) (by decide) (hr8.2.2.2.2.1) ?_
            refine j_goto (tgt := 90) hC dX10_letter_75 (by decide) ?_
            have e9 : opLetter (nI r9) i (S, P, V, b, e, u) = (0, nI ((ranAt L9 r9).2.1.length), (S, P, V, b, e, u)) := ltr_n (T := (S, P, V, b, e, u)) hu hr9 hL20 (by assumption) ((in_m1 (n := (ranAt L9 r9).2.1.length) (by omega)).mp (by assumption)) (Int32.not_le.mp (by assumption))
            exact j_iret hC9 rfl rfl dX10_letter_90 ⟨(rs (rs R 0 (nI (unA u (nI r9)))) 0 (nI (0))), ro_ans e9 (rfl) (hi), rfl⟩
        · exact absurd c6 (by decide)
    · refine j_iconst (v := nI 3) hC dX10_letter_26 (by decide) ?_
      refine j_goto (tgt := 51) hC dX10_letter_27 (by decide) ?_
      refine r_put hC kp_X10_78 dX10_letter_51 hB rfl rfl rF_set_0 ?_
      refine j_aload_n hC dX10_letter_54 rfl (jrf_ref _) ?_
      refine r_getN (x := nI (3)) hC kf_X10_78 dX10_letter_55 rfl (rfl) ?_
      refine n_if_eq (tgt := 65) hC dX10_letter_58 (by decide) (by omega) (fun c8 => ?_) (fun c8 => ?_)
      · exact absurd c8 (by decide)
      · refine j_iconst (v := nI 0) hC dX10_letter_61 (by decide) ?_
        refine j_goto (tgt := 90) hC dX10_letter_62 (by decide) ?_
        have e9 : opLetter (nI r9) i (S, P, V, b, e, u) = (3, nI (0), (S, P, V, b, e, u)) := ltr_3 (T := (S, P, V, b, e, u)) hu hr9 hL20 (by assumption)
        exact j_iret hC9 rfl rfl dX10_letter_90 ⟨(rs (rs R 0 (nI (unA u (nI r9)))) 0 (nI (3))), ro_ans e9 (rfl) (hi), rfl⟩
set_option maxHeartbeats 4000000 in
set_option maxRecDepth 100000 in
theorem o_X10_chain {v i : Int32} : ROp jX10_chain 2 [.int v, .int i] (opChain v i) := by
  intro R T hi
  obtain ⟨S, P, V, b, e, u⟩ := T
  intro G o M0 hs hBo
  refine jMet_of [some (.ref o), some (.int v), some (.int i)] (by decide) rfl (Nat.le_of_ble_eq_true rfl) rfl hs ?_
  intro C hC9 hG
  have hC := hC9.z
  have hB : jB C ≤ o := by rw [jB, hG]; exact hBo
  have hp : rPre R S := ri_pre hi
  have h20 := rp_n20 hp
  have hP8 : P.length ≤ 8 := ri_pn hi
  have hb120 : b.length ≤ 120 := ri_bn hi
  refine j_aload_n hC dX10_chain_0 rfl (jrf_ref _) ?_
  refine j_aload_n hC dX10_chain_1 rfl (jrf_ref _) ?_
  refine j_iload_n hC dX10_chain_2 rfl ?_
  refine r_ci1 hC kv_X10_262 dX10_chain_3 (m_X10_unasked (R := R) (T := (S, P, V, b, e, u)) (v := v) hi) hB rfl (by decide) (Nat.le_of_ble_eq_true rfl) ?_
  refine r_put hC kp_X10_78 dX10_chain_6 hB rfl rfl rF_set_0 ?_
  have hun := unA_le (u := u) (v := v)
  refine j_aload_n hC dX10_chain_9 rfl (jrf_ref _) ?_
  refine r_getN (x := nI (unA u (v))) hC kf_X10_78 dX10_chain_10 rfl (rfl) ?_
  refine n_if_ne (tgt := 55) hC dX10_chain_13 (by decide) (by omega) (fun c1 => ?_) (fun c1 => ?_)
  · refine j_aload_n hC dX10_chain_55 rfl (jrf_ref _) ?_
    refine r_getN (x := nI (unA u (v))) hC kf_X10_78 dX10_chain_56 rfl (rfl) ?_
    refine n_if_eq (tgt := 66) hC dX10_chain_59 (by decide) (by omega) (fun c2 => ?_) (fun c2 => ?_)
    · exact (show False by omega).elim
    · refine j_iconst (v := nI 0) hC dX10_chain_62 (by decide) ?_
      refine j_goto (tgt := 76) hC dX10_chain_63 (by decide) ?_
      have e9 : opChain v i (S, P, V, b, e, u) = (unA u v, nI (0), (S, P, V, b, e, u)) := chn_e (T := (S, P, V, b, e, u)) (by assumption)
      exact j_iret hC9 rfl rfl dX10_chain_76 ⟨(rs R 0 (nI (unA u (v)))), ro_ans e9 (rfl) (hi), rfl⟩
  · obtain ⟨L9, hu, hj9⟩ := unA_0 (by assumption : unA u v = 0)
    have hrr := ri_rr hi L9 hu
    have hL20 := hrr.2.1
    obtain ⟨r9, hr9, rfl⟩ := jin_of hj9 (by omega)
    have hr8 := hrr.2.2 r9 hr9
    have hu0 : unA u (nI r9) = 0 := by assumption
    refine j_aload_n hC dX10_chain_16 rfl (jrf_ref _) ?_
    refine j_aload_n hC dX10_chain_17 rfl (jrf_ref _) ?_
    refine r_get hC kf_X10_63 dX10_chain_18 rfl ?_
    refine j_iload_n hC dX10_chain_21 rfl ?_
    refine r_aldN (k := 31) (j := r9) (x := nI ((ranAt L9 r9).1)) hC dX10_chain_22 (c := 16) (n := 20) (by decide) rfl rfl (by omega) (by decide) (hr8.2.2.2.1) ?_
    have hlen : (ranAt L9 r9).2.2.length ≤ 5 := hr8.2.2.1
    have hrs4 := hr8.1
    refine j_iconst (v := nI 3) hC dX10_chain_23 (by decide) ?_
    refine n_icmp_ge (tgt := 31) hC dX10_chain_24 (by decide) (by omega) (by omega) (fun c3 => ?_) (fun c3 => ?_)
    · refine j_iload_n hC dX10_chain_31 rfl ?_
      refine j_iconst (v := nI 0) hC dX10_chain_32 (by decide) ?_
      refine j_aload_n hC dX10_chain_33 rfl (jrf_ref _) ?_
      refine r_get hC kf_X10_72 dX10_chain_34 rfl ?_
      refine j_iload_n hC dX10_chain_37 rfl ?_
      refine r_aldN (k := 34) (j := r9) (x := nI ((ranAt L9 r9).2.2.length)) hC dX10_chain_38 (c := 19) (n := 20) (by decide) rfl rfl (by omega) (by decide) (hr8.2.2.2.2.2.2.1) ?_
      refine j_iconst (v := nI 1) hC dX10_chain_39 (by decide) ?_
      refine z_isub (a := (((ranAt L9 r9).2.2.length : Nat) : Int)) (b := ((1 : Nat) : Int)) hC dX10_chain_40 ?_
      refine s_ci3 hC ks_X10_88 dX10_chain_41 (m_X10_in) rfl (by decide) (Nat.le_of_ble_eq_true rfl) ?_
      refine j_top (jb_in0 (n := (ranAt L9 r9).2.2.length) (by omega)) ?_
      refine jb_if_eq (tgt := 51) hC dX10_chain_44 (by decide) (fun c4 => ?_) (fun c4 => ?_)
      · refine j_iconst (v := nI 4) hC dX10_chain_51 (by decide) ?_
        refine r_put hC kp_X10_78 dX10_chain_52 hB rfl rfl rF_set_0 ?_
        refine j_aload_n hC dX10_chain_55 rfl (jrf_ref _) ?_
        refine r_getN (x := nI (4)) hC kf_X10_78 dX10_chain_56 rfl (rfl) ?_
        refine n_if_eq (tgt := 66) hC dX10_chain_59 (by decide) (by omega) (fun c5 => ?_) (fun c5 => ?_)
        · exact absurd c5 (by decide)
        · refine j_iconst (v := nI 0) hC dX10_chain_62 (by decide) ?_
          refine j_goto (tgt := 76) hC dX10_chain_63 (by decide) ?_
          have e9 : opChain (nI r9) i (S, P, V, b, e, u) = (4, nI (0), (S, P, V, b, e, u)) := chn_4 (T := (S, P, V, b, e, u)) hu hr9 hL20 (by assumption) (by assumption)
          exact j_iret hC9 rfl rfl dX10_chain_76 ⟨(rs (rs R 0 (nI (unA u (nI r9)))) 0 (nI (4))), ro_ans e9 (rfl) (hi), rfl⟩
      · refine j_iconst (v := nI 0) hC dX10_chain_47 (by decide) ?_
        refine j_goto (tgt := 52) hC dX10_chain_48 (by decide) ?_
        refine r_put hC kp_X10_78 dX10_chain_52 hB rfl rfl rF_set_0 ?_
        refine j_aload_n hC dX10_chain_55 rfl (jrf_ref _) ?_
        refine r_getN (x := nI (0)) hC kf_X10_78 dX10_chain_56 rfl (rfl) ?_
        refine n_if_eq (tgt := 66) hC dX10_chain_59 (by decide) (by omega) (fun c6 => ?_) (fun c6 => ?_)
        · obtain ⟨j9, hj8, rfl⟩ := jin_of (by assumption : jin i (ranAt L9 r9).2.2.length = true) (by omega)
          refine j_aload_n hC dX10_chain_66 rfl (jrf_ref _) ?_
          refine r_get hC kf_X10_75 dX10_chain_67 rfl ?_
          refine j_iconst (v := nI 5) hC dX10_chain_70 (by decide) ?_
          refine j_iload_n hC dX10_chain_71 rfl ?_
          refine n_imul hC dX10_chain_72 ?_
          refine j_iload_n hC dX10_chain_73 rfl ?_
          refine n_iadd hC dX10_chain_74 ?_
          refine r_aldN (k := 35) (j := (5 * r9) + (j9)) (x := nI ((ranAt L9 r9).2.2.getD j9 0)) hC dX10_chain_75 (c := 20) (n := 100) (by decide) rfl rfl (by omega) (by decide) (hr8.2.2.2.2.2.2.2.1 _ hj8) ?_
          have e9 : opChain (nI r9) (nI j9) (S, P, V, b, e, u) = (0, nI ((ranAt L9 r9).2.2.getD j9 0), (S, P, V, b, e, u)) := chn_0 (T := (S, P, V, b, e, u)) hu hr9 hL20 (by assumption) hj8 (by omega)
          exact j_iret hC9 rfl rfl dX10_chain_76 ⟨(rs (rs R 0 (nI (unA u (nI r9)))) 0 (nI (0))), ro_ans e9 (rfl) (hi), rfl⟩
        · exact absurd c6 (by decide)
    · refine j_iconst (v := nI 3) hC dX10_chain_27 (by decide) ?_
      refine j_goto (tgt := 52) hC dX10_chain_28 (by decide) ?_
      refine r_put hC kp_X10_78 dX10_chain_52 hB rfl rfl rF_set_0 ?_
      refine j_aload_n hC dX10_chain_55 rfl (jrf_ref _) ?_
      refine r_getN (x := nI (3)) hC kf_X10_78 dX10_chain_56 rfl (rfl) ?_
      refine n_if_eq (tgt := 66) hC dX10_chain_59 (by decide) (by omega) (fun c7 => ?_) (fun c7 => ?_)
      · exact absurd c7 (by decide)
      · refine j_iconst (v := nI 0) hC dX10_chain_62 (by decide) ?_
        refine j_goto (tgt := 76) hC dX10_chain_63 (by decide) ?_
        have e9 : opChain (nI r9) i (S, P, V, b, e, u) = (3, nI (0), (S, P, V, b, e, u)) := chn_3 (T := (S, P, V, b, e, u)) hu hr9 hL20 (by assumption)
        exact j_iret hC9 rfl rfl dX10_chain_76 ⟨(rs (rs R 0 (nI (unA u (nI r9)))) 0 (nI (3))), ro_ans e9 (rfl) (hi), rfl⟩
