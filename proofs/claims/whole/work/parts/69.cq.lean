theorem ky_cl_l : Cond.methodLink RJ7 310 ⟨"[B", "clone", "()Ljava/lang/Object;"⟩ ∈ jWs := jWs_of 578 (by decide +kernel) rfl
theorem ky_cl_s : Cond.sameMethod "[B" "java/lang/Object" "clone" "()Ljava/lang/Object;" ∈ jWs := jWs_of 579 (by decide +kernel) rfl
theorem ky_cl_n : Cond.native ⟨"java/lang/Object", "clone", "()Ljava/lang/Object;"⟩ ∈ jWs := jWs_of 580 (by decide +kernel) rfl
theorem ky_cl_i : Cond.instanceMethod ⟨"java/lang/Object", "clone", "()Ljava/lang/Object;"⟩ ∈ jWs := jWs_of 581 (by decide +kernel) rfl
theorem ky_cl_e : Cond.selects "[B" ⟨"[B", "clone", "()Ljava/lang/Object;"⟩ ⟨"java/lang/Object", "clone", "()Ljava/lang/Object;"⟩ ∈ jWs := jWs_of 582 (by decide +kernel) rfl
theorem ky_cl_c : Cond.classLink RJ7 311 "[B" ∈ jWs := jWs_of 584 (by decide +kernel) rfl
/-! ===== where a sign stands in a text; pieces of texts ===== -/
def idxA (t : List Nat) (c : Nat) : Nat → Nat → Option Nat
  | 0, _ => none
  | f + 1, i => if t.getD i 0 = c then some i else idxA t c f (i + 1)
section IX
variable {t : List Nat} {c i : Nat}
theorem idx_no (hi : i < t.length) (h : ¬ t.getD i 0 = c) : idxA t c (t.length - (i + 1)) (i + 1) = idxA t c (t.length - i) i := by
  rw [show t.length - i = (t.length - (i + 1)) + 1 by omega]
  exact (if_neg h).symm
theorem idx_yes (hi : i < t.length) (h : t.getD i 0 = c) : idxA t c (t.length - i) i = some i := by
  rw [show t.length - i = (t.length - (i + 1)) + 1 by omega]
  exact if_pos h
theorem idx_end (hi : t.length ≤ i) : idxA t c (t.length - i) i = none := by
  rw [show t.length - i = 0 by omega]
  rfl
end IX
def litT : List Nat := [35, 64, 123, 125, 60, 62, 124, 91, 93, 47]
theorem lit_idx : ∀ c, c < 128 → isLit c = decide (32 ≤ c ∧ c ≤ 126 ∧ optZ (idxA litT c 10 0) < 0) := by decide +kernel
theorem idx_b : ∀ (f : Nat) {t : List Nat} {c i : Nat}, -1 ≤ optZ (idxA t c f i) ∧ optZ (idxA t c f i) < (f + i : Nat) + 1
  | 0, t, c, i => by simp only [idxA, optZ]; omega
  | f + 1, t, c, i => by
    simp only [idxA]
    split
    · simp only [optZ]; omega
    · have := idx_b f (t := t) (c := c) (i := i + 1); omega
theorem i2b_126 {c : Nat} (h : c ≤ 126) : (nI c).toInt8.toInt32 = nI c := i2b_chr c (by omega)
set_option maxHeartbeats 4000000 in
set_option maxRecDepth 100000 in
theorem m_J1_canEncode_9a6ad {G : jG} {M : jM} {c : Nat} (hs : (gL G).stackTraces = false) (hc : c ≤ 126) : CM G M jJ1_canEncode_9a6ad 0 0 0 [.int (nI c)] (some (.int (nI 1))) (M) := by
  refine jMet_of [some (.int (nI (c)))] (by decide) rfl (Nat.le_of_ble_eq_true rfl) (rfl) hs ?_
  intro C hC9 hG
  have hC := hC9.z
  have hs9 := jOK0_tr hC
  refine j_iload_n hC dJ1_canEncode_9a6ad_0 rfl ?_
  refine n_if_lt (tgt := 15) hC dJ1_canEncode_9a6ad_1 (by decide) (by omega) (fun c1 => ?_) (fun c1 => ?_)
  · exact (show False by omega).elim
  · refine j_iload_n hC dJ1_canEncode_9a6ad_4 rfl ?_
    refine j_sipush (v := nI 255) hC dJ1_canEncode_9a6ad_5 (by decide) ?_
    refine n_icmp_gt (tgt := 15) hC dJ1_canEncode_9a6ad_8 (by decide) (by omega) (by omega) (fun c2 => ?_) (fun c2 => ?_)
    · exact (show False by omega).elim
    · refine j_iconst (v := nI 1) hC dJ1_canEncode_9a6ad_11 (by decide) ?_
      refine j_goto (tgt := 16) hC dJ1_canEncode_9a6ad_12 (by decide) ?_
      exact j_iret hC9 rfl (rfl) dJ1_canEncode_9a6ad_16 ⟨rfl, rfl⟩
set_option maxHeartbeats 4000000 in
set_option maxRecDepth 100000 in
theorem m_J1_indexOfChar_4cfef {G : jG} {M : jM} {b c : Nat} {t : List Nat} (hs : (gL G).stackTraces = false) (h4 : M.1 b = some (.inl (.byte, t.length, fun j => .int (tCh t j)))) (h5 : tOK t) (hc : c ≤ 126) : CM G M jJ1_indexOfChar_4cfef 0 0 0 [.ref b, .int (nI c), .int (nI 0), .int (nI t.length)] (some (.int (zI (optZ (idxA t c t.length 0))))) (M) := by
  refine jMet_of [some (.ref (b)), some (.int (nI (c))), some (.int (nI (0))), some (.int (nI (t.length))), none, none] (by decide) rfl (Nat.le_of_ble_eq_true rfl) (rfl) hs ?_
  intro C hC9 hG
  have hC := hC9.z
  have hs9 := jOK0_tr hC
  have h6 := h5.1
  refine j_iload_n hC dJ1_indexOfChar_4cfef_0 rfl ?_
  refine j_i2b hC dJ1_indexOfChar_4cfef_1 ?_
  refine j_top (i2b_126 hc) ?_
  refine j_istore_4 hC dJ1_indexOfChar_4cfef_2 (by decide) rfl ?_
  refine j_iload_n hC dJ1_indexOfChar_4cfef_4 rfl ?_
  refine j_istore_5 hC dJ1_indexOfChar_4cfef_5 (by decide) rfl ?_
  suffices K : ∀ (n9 : Nat) (i : Nat), t.length - i < n9 → (i ≤ t.length) → (idxA t c (t.length - i) i = idxA t c t.length 0) → J C (M) 0 0 7 [some (.ref (b)), some (.int (nI (c))), some (.int (nI (0))), some (.int (nI (t.length))), some (.int (nI (c))), some (.int (nI (i)))] [] from j_M (rfl) (K _ (0) (Nat.lt_succ_self _) (Nat.zero_le _) (rfl))
  intro n9
  induction n9 with
  | zero => intro i hm; omega
  | succ n9 ih =>
    intro i hm hi he
    refine j_iload hC dJ1_indexOfChar_4cfef_7 rfl ?_
    refine j_iload_n hC dJ1_indexOfChar_4cfef_9 rfl ?_
    refine n_icmp_ge (tgt := 31) hC dJ1_indexOfChar_4cfef_10 (by decide) (by omega) (by omega) (fun c1 => ?_) (fun c1 => ?_)
    · refine j_iconst (v := zI (-1)) hC dJ1_indexOfChar_4cfef_31 (by decide) ?_
      exact j_iret hC9 rfl (rfl) dJ1_indexOfChar_4cfef_32 ⟨(jv (by rw [← he, idx_end (by omega)]; rfl)), rfl⟩
    · refine j_aload_n hC dJ1_indexOfChar_4cfef_13 rfl (jrf_ref _) ?_
      have h7 := chr_le h5 (i := i)
      refine j_iload hC dJ1_indexOfChar_4cfef_14 rfl ?_
      refine c_bald (i := i) (x := nI (t.getD (i) 0)) hC dJ1_indexOfChar_4cfef_16 (h4) (by omega) (by omega) (rfl) ?_
      refine j_iload hC dJ1_indexOfChar_4cfef_17 rfl ?_
      refine n_icmp_ne (tgt := 25) hC dJ1_indexOfChar_4cfef_19 (by decide) (by omega) (by omega) (fun c2 => ?_) (fun c2 => ?_)
      · refine j_iinc_5 (v := nI (i + 1)) hC dJ1_indexOfChar_4cfef_25 (nI_add _ _) (by decide) rfl ?_
        refine j_goto (tgt := 7) hC dJ1_indexOfChar_4cfef_28 (by decide) ?_
        exact j_M (rfl) (ih (i + 1) (by omega) (by omega) ((idx_no (by omega) (by assumption)).trans he))
      · refine j_iload hC dJ1_indexOfChar_4cfef_22 rfl ?_
        exact j_iret hC9 rfl (rfl) dJ1_indexOfChar_4cfef_24 ⟨(jv (by rw [← he, idx_yes (by omega) (by assumption)]; rfl)), rfl⟩
set_option maxHeartbeats 4000000 in
set_option maxRecDepth 100000 in
theorem m_J1_indexOf_4cfef {G : jG} {M : jM} {b c : Nat} {t : List Nat} (hs : (gL G).stackTraces = false) (h4 : M.1 b = some (.inl (.byte, t.length, fun j => .int (tCh t j)))) (h5 : tOK t) (hc : c ≤ 126) (hn : 0 < t.length) : CM G M jJ1_indexOf_4cfef 0 0 1 [.ref b, .int (nI c), .int (nI 0), .int (nI t.length)] (some (.int (zI (optZ (idxA t c t.length 0))))) (M) := by
  refine jMet_of [some (.ref (b)), some (.int (nI (c))), some (.int (nI (0))), some (.int (nI (t.length)))] (by decide) rfl (Nat.le_of_ble_eq_true rfl) (rfl) hs ?_
  intro C hC9 hG
  have hC := hC9.z
  have hs9 := jOK0_tr hC
  have h6 := h5.1
  refine j_iload_n hC dJ1_indexOf_4cfef_0 rfl ?_
  refine c_S hC ks_J1_88 rfl dJ1_indexOf_4cfef_1 (m_J1_canEncode_9a6ad hs9 (by omega)) rfl rfl (by decide) (Nat.le_of_ble_eq_true rfl) ?_
  refine n_if_ne (tgt := 9) hC dJ1_indexOf_4cfef_4 (by decide) (by omega) (fun c1 => ?_) (fun c1 => ?_)
  · refine j_iload_n hC dJ1_indexOf_4cfef_9 rfl ?_
    refine j_iconst (v := nI 0) hC dJ1_indexOf_4cfef_10 (by decide) ?_
    refine c_max (a := 0) (b := 0) hC ks_J1_92 dJ1_indexOf_4cfef_11 (by omega) (by omega) (by decide) (Nat.le_of_ble_eq_true rfl) ?_
    refine j_top (rfl) ?_
    refine j_istore_n2 hC dJ1_indexOf_4cfef_14 (by decide) rfl ?_
    refine j_iload_n hC dJ1_indexOf_4cfef_15 rfl ?_
    refine j_aload_n hC dJ1_indexOf_4cfef_16 rfl (jrf_ref _) ?_
    refine c_alen hC dJ1_indexOf_4cfef_17 (h4) ?_
    refine c_min (a := t.length) (b := t.length) hC ks_J1_38 dJ1_indexOf_4cfef_18 (by omega) (by omega) (by decide) (Nat.le_of_ble_eq_true rfl) ?_
    refine j_top (by rw [Nat.min_self]) ?_
    refine j_istore_n3 hC dJ1_indexOf_4cfef_21 (by decide) rfl ?_
    refine j_iload_n hC dJ1_indexOf_4cfef_22 rfl ?_
    refine j_iload_n hC dJ1_indexOf_4cfef_23 rfl ?_
    refine n_icmp_lt (tgt := 29) hC dJ1_indexOf_4cfef_24 (by decide) (by omega) (by omega) (fun c2 => ?_) (fun c2 => ?_)
    · refine j_aload_n hC dJ1_indexOf_4cfef_29 rfl (jrf_ref _) ?_
      refine j_iload_n hC dJ1_indexOf_4cfef_30 rfl ?_
      refine j_iload_n hC dJ1_indexOf_4cfef_31 rfl ?_
      refine j_iload_n hC dJ1_indexOf_4cfef_32 rfl ?_
      refine c_S hC ks_J1_95 rfl dJ1_indexOf_4cfef_33 (m_J1_indexOfChar_4cfef hs9 h4 h5 hc) rfl rfl (by decide) (Nat.le_of_ble_eq_true rfl) ?_
      exact j_iret hC9 rfl (rfl) dJ1_indexOf_4cfef_36 ⟨rfl, rfl⟩
    · exact (show False by omega).elim
  · exact absurd c1 (by decide)
set_option maxHeartbeats 4000000 in
set_option maxRecDepth 100000 in
theorem m_J0_indexOf_7cf53 {G : jG} {M : jM} {a c : Nat} {t : List Nat} (hs : (gL G).stackTraces = false) (h : strR M.1 a t) (hc : c ≤ 126) (hn : 0 < t.length) : CM G M jJ0_indexOf_7cf53 0 0 2 [.ref a, .int (nI c), .int (nI 0)] (some (.int (zI (optZ (idxA t c t.length 0))))) (M) := by
  refine jMet_of [some (.ref (a)), some (.int (nI (c))), some (.int (nI (0)))] (by decide) rfl (Nat.le_of_ble_eq_true rfl) (rfl) hs ?_
  intro C hC9 hG
  have hC := hC9.z
  have hs9 := jOK0_tr hC
  obtain ⟨⟨b, fs, h1, h2, h3, h4⟩, h5⟩ := id h
  have h6 := h5.1
  refine j_aload_n hC dJ0_indexOf_7cf53_0 rfl (jrf_ref _) ?_
  refine c_V hC kv_J0_492 dJ0_indexOf_7cf53_1 (m_J0_isLatin1_aae02 hs9 h) (h1) rfl rfl rfl rfl (by decide) (Nat.le_of_ble_eq_true rfl) ?_
  refine n_if_eq (tgt := 23) hC dJ0_indexOf_7cf53_4 (by decide) (by omega) (fun c1 => ?_) (fun c1 => ?_)
  · exact absurd c1 (by decide)
  · refine j_aload_n hC dJ0_indexOf_7cf53_7 rfl (jrf_ref _) ?_
    refine j_get (v := .ref (b)) hC kf_J0_9 dJ0_indexOf_7cf53_8 (h1) (h2) ?_
    refine j_iload_n hC dJ0_indexOf_7cf53_11 rfl ?_
    refine j_iload_n hC dJ0_indexOf_7cf53_12 rfl ?_
    refine j_aload_n hC dJ0_indexOf_7cf53_13 rfl (jrf_ref _) ?_
    refine c_V hC kv_J0_505 dJ0_indexOf_7cf53_14 (m_J0_length_8abf5 hs9 h) (h1) rfl rfl rfl rfl (by decide) (Nat.le_of_ble_eq_true rfl) ?_
    refine c_S hC ks_J0_637 rfl dJ0_indexOf_7cf53_17 (m_J1_indexOf_4cfef hs9 h4 h5 hc hn) rfl rfl (by decide) (Nat.le_of_ble_eq_true rfl) ?_
    refine j_goto (tgt := 36) hC dJ0_indexOf_7cf53_20 (by decide) ?_
    exact j_iret hC9 rfl (rfl) dJ0_indexOf_7cf53_36 ⟨rfl, rfl⟩
set_option maxHeartbeats 4000000 in
set_option maxRecDepth 100000 in
theorem m_J0_indexOf_0f7a4 {G : jG} {M : jM} {a c : Nat} {t : List Nat} (hs : (gL G).stackTraces = false) (h : strR M.1 a t) (hc : c ≤ 126) (hn : 0 < t.length) : CM G M jJ0_indexOf_0f7a4 0 0 3 [.ref a, .int (nI c)] (some (.int (zI (optZ (idxA t c t.length 0))))) (M) := by
  refine jMet_of [some (.ref (a)), some (.int (nI (c)))] (by decide) rfl (Nat.le_of_ble_eq_true rfl) (rfl) hs ?_
  intro C hC9 hG
  have hC := hC9.z
  have hs9 := jOK0_tr hC
  obtain ⟨⟨b, fs, h1, h2, h3, h4⟩, h5⟩ := id h
  have h6 := h5.1
  refine j_aload_n hC dJ0_indexOf_0f7a4_0 rfl (jrf_ref _) ?_
  refine j_iload_n hC dJ0_indexOf_0f7a4_1 rfl ?_
  refine j_iconst (v := nI 0) hC dJ0_indexOf_0f7a4_2 (by decide) ?_
  refine c_V hC kv_J0_633 dJ0_indexOf_0f7a4_3 (m_J0_indexOf_7cf53 hs9 h hc hn) (h1) rfl rfl rfl rfl (by decide) (Nat.le_of_ble_eq_true rfl) ?_
  exact j_iret hC9 rfl (rfl) dJ0_indexOf_0f7a4_6 ⟨rfl, rfl⟩
section LT
variable {c : Nat}
theorem lt_t (hc : c ≤ 126) (h : 32 ≤ c) (h2 : optZ (idxA litT c 10 0) < 0) : isLit c = true := by
  rw [lit_idx c (by omega)]; exact decide_eq_true ⟨h, hc, h2⟩
theorem lt_f (hc : c ≤ 126) (h : ¬ (32 ≤ c ∧ optZ (idxA litT c 10 0) < 0)) : ¬ isLit c = true := by
  rw [lit_idx c (by omega), decide_eq_true_eq]; exact fun e => h ⟨e.1, e.2.2⟩
end LT
set_option maxHeartbeats 4000000 in
set_option maxRecDepth 100000 in
theorem m_X7_isLiteral {G : jG} {M : jM} {c : Nat} (hs : (gL G).stackTraces = false) (hk : strR M.1 (gK G 19) litT) (hc : c ≤ 126) : CM G M jX7_isLiteral 0 0 4 [.int (nI c)] (some (.int (jb (isLit c = true)))) (M) := by
  refine jMet_of [some (.int (nI (c)))] (by decide) rfl (Nat.le_of_ble_eq_true rfl) (rfl) hs ?_
  intro C hC9 hG
  have hC := hC9.z
  have hs9 := jOK0_tr hC
  have hib := idx_b 10 (t := litT) (c := c) (i := 0)
  refine j_iload_n hC dX7_isLiteral_0 rfl ?_
  refine j_bipush (v := nI 32) hC dX7_isLiteral_1 (by decide) ?_
  refine n_icmp_lt (tgt := 26) hC dX7_isLiteral_3 (by decide) (by omega) (by omega) (fun c1 => ?_) (fun c1 => ?_)
  · refine j_iconst (v := nI 0) hC dX7_isLiteral_26 (by decide) ?_
    exact j_iret hC9 rfl (rfl) dX7_isLiteral_27 ⟨(jv (jb_f0 (lt_f hc (fun e => by omega)))), rfl⟩
  · refine j_iload_n hC dX7_isLiteral_6 rfl ?_
    refine j_bipush (v := nI 126) hC dX7_isLiteral_7 (by decide) ?_
    refine n_icmp_gt (tgt := 26) hC dX7_isLiteral_9 (by decide) (by omega) (by omega) (fun c2 => ?_) (fun c2 => ?_)
    · refine j_iconst (v := nI 0) hC dX7_isLiteral_26 (by decide) ?_
      exact j_iret hC9 rfl (rfl) dX7_isLiteral_27 ⟨(jv (jb_f0 (lt_f hc (fun e => by omega)))), rfl⟩
    · refine j_ldcS (i := 19) (is := 163) (text := "#@{}<>|[]/") hC rfl dX7_isLiteral_12 ?_
      rw [hG]
      refine j_iload_n hC dX7_isLiteral_14 rfl ?_
      refine j_i2c hC dX7_isLiteral_15 ?_
      refine j_top (i2c_chr _ (by omega)) ?_
      refine c_V hC kv_X7_165 dX7_isLiteral_16 (m_J0_indexOf_0f7a4 hs9 hk (by omega) (by decide)) (hk.obj.choose_spec) rfl rfl rfl rfl (by decide) (Nat.le_of_ble_eq_true rfl) ?_
      refine z_if_ge (a := (optZ (idxA litT c 10 0))) (tgt := 26) hC dX7_isLiteral_19 (by decide) (by unfold zB; omega) (fun c3 => ?_) (fun c3 => ?_)
      · refine j_iconst (v := nI 0) hC dX7_isLiteral_26 (by decide) ?_
        exact j_iret hC9 rfl (rfl) dX7_isLiteral_27 ⟨(jv (jb_f0 (lt_f hc (fun e => by omega)))), rfl⟩
      · refine j_iconst (v := nI 1) hC dX7_isLiteral_22 (by decide) ?_
        refine j_goto (tgt := 27) hC dX7_isLiteral_23 (by decide) ?_
        exact j_iret hC9 rfl (rfl) dX7_isLiteral_27 ⟨(jv (jb_t1 (lt_t hc (by omega) (by omega)))), rfl⟩
set_option maxHeartbeats 4000000 in
set_option maxRecDepth 100000 in
theorem m_J3_checkFromToIndex_8c36e {G : jG} {M : jM} {i j n : Nat} {v : Value} (hs : (gL G).stackTraces = false) (hij : i ≤ j) (hjn : j ≤ n) (hn : n < 2 ^ 31) (hv : jrf v) : CM G M jJ3_checkFromToIndex_8c36e 0 0 0 [.int (nI i), .int (nI j), .int (nI n), v] (some (.int (nI i))) (M) := by
  refine jMet_of [some (.int (nI (i))), some (.int (nI (j))), some (.int (nI (n))), some (v)] (by decide) rfl (by rcases hv with rfl | ⟨a9, rfl⟩ <;> exact Nat.le_of_ble_eq_true rfl) (by rcases hv with rfl | ⟨a9, rfl⟩ <;> rfl) hs ?_
  intro C hC9 hG
  have hC := hC9.z
  have hs9 := jOK0_tr hC
  refine j_iload_n hC dJ3_checkFromToIndex_8c36e_0 rfl ?_
  refine n_if_lt (tgt := 14) hC dJ3_checkFromToIndex_8c36e_1 (by decide) (by omega) (fun c1 => ?_) (fun c1 => ?_)
  · exact (show False by omega).elim
  · refine j_iload_n hC dJ3_checkFromToIndex_8c36e_4 rfl ?_
    refine j_iload_n hC dJ3_checkFromToIndex_8c36e_5 rfl ?_
    refine n_icmp_gt (tgt := 14) hC dJ3_checkFromToIndex_8c36e_6 (by decide) (by omega) (by omega) (fun c2 => ?_) (fun c2 => ?_)
    · exact (show False by omega).elim
    · refine j_iload_n hC dJ3_checkFromToIndex_8c36e_9 rfl ?_
      refine j_iload_n hC dJ3_checkFromToIndex_8c36e_10 rfl ?_
      refine n_icmp_le (tgt := 22) hC dJ3_checkFromToIndex_8c36e_11 (by decide) (by omega) (by omega) (fun c3 => ?_) (fun c3 => ?_)
      · refine j_iload_n hC dJ3_checkFromToIndex_8c36e_22 rfl ?_
        exact j_iret hC9 rfl (rfl) dJ3_checkFromToIndex_8c36e_23 ⟨rfl, rfl⟩
      · exact (show False by omega).elim
set_option maxHeartbeats 4000000 in
set_option maxRecDepth 100000 in
theorem m_J0_checkBoundsBeginEnd_23922 {G : jG} {M : jM} {i j n : Nat} (hs : (gL G).stackTraces = false) (hij : i ≤ j) (hjn : j ≤ n) (hn : n < 2 ^ 31) : CM G M jJ0_checkBoundsBeginEnd_23922 0 0 1 [.int (nI i), .int (nI j), .int (nI n)] (none) (M) := by
  refine jMet_of [some (.int (nI (i))), some (.int (nI (j))), some (.int (nI (n)))] (by decide) rfl (Nat.le_of_ble_eq_true rfl) (rfl) hs ?_
  intro C hC9 hG
  have hC := hC9.z
  have hs9 := jOK0_tr hC
  refine j_iload_n hC dJ0_checkBoundsBeginEnd_23922_0 rfl ?_
  refine j_iload_n hC dJ0_checkBoundsBeginEnd_23922_1 rfl ?_
  refine j_iload_n hC dJ0_checkBoundsBeginEnd_23922_2 rfl ?_
  refine j_sioobe hC kg_J0_1053 dJ0_checkBoundsBeginEnd_23922_3 (fun v9 hv9 => ?_)
  refine c_S hC ks_J0_1062 rfl dJ0_checkBoundsBeginEnd_23922_6 (m_J3_checkFromToIndex_8c36e hs9 (by omega) (by omega) (by omega) hv9) rfl rfl (by decide) (Nat.le_of_ble_eq_true rfl) ?_
  refine j_pop hC dJ0_checkBoundsBeginEnd_23922_9 rfl ?_
  exact j_vret hC9 rfl dJ0_checkBoundsBeginEnd_23922_10 ⟨rfl, rfl⟩
set_option maxHeartbeats 4000000 in
set_option maxRecDepth 100000 in
theorem m_J7_checkLength_df160 {G : jG} {M : jM} {i j : Nat} (hs : (gL G).stackTraces = false) (hij : i ≤ j) (hj : j < 2 ^ 31) : CM G M jJ7_checkLength_df160 0 0 0 [.int (nI i), .int (nI j)] (none) (M) := by
  refine jMet_of [some (.int (nI (i))), some (.int (nI (j)))] (by decide) rfl (Nat.le_of_ble_eq_true rfl) (rfl) hs ?_
  intro C hC9 hG
  have hC := hC9.z
  have hs9 := jOK0_tr hC
  refine j_iload_n hC dJ7_checkLength_df160_0 rfl ?_
  refine j_iload_n hC dJ7_checkLength_df160_1 rfl ?_
  refine n_icmp_ge (tgt := 37) hC dJ7_checkLength_df160_2 (by decide) (by omega) (by omega) (fun c1 => ?_) (fun c1 => ?_)
  · exact j_vret hC9 rfl dJ7_checkLength_df160_37 ⟨rfl, rfl⟩
  · exact (show False by omega).elim
set_option maxHeartbeats 4000000 in
set_option maxRecDepth 100000 in
theorem m_J0_init_031fb {G : jG} {M : jM} {a : Nat} {v0 v1 v2 v3 : Value} {b : Nat} (hs : (gL G).stackTraces = false) (h1 : M.1 a = some (.inr (0, [v0, v1, v2, v3]))) (hB : gB G ≤ a)  : JMet G jJ0_init_031fb [.ref a, .ref b, .int (nI 0)] (M) 0 0 1 (fun v M' => v = none ∧ M' = jput M a (.inr (0, [.ref b, .int (nI 0), v2, v3]))) jNo := by
  refine jMet_of [some (.ref (a)), some (.ref (b)), some (.int (nI (0)))] (by decide) rfl (Nat.le_of_ble_eq_true rfl) (rfl) hs ?_
  intro C hC9 hG
  have hC := hC9.z
  have hs9 := jOK0_tr hC
  refine j_lt (fun hlt => ?_)
  have hBg : jB C = gB G := by rw [jB, hG]
  subst hG
  refine j_aload_n hC dJ0_init_031fb_0 rfl (jrf_ref _) ?_
  refine j_obj hC ko_J0_1 ko_i ko_c dJ0_init_031fb_1 (by decide) (Nat.le_of_ble_eq_true rfl) ?_
  refine j_aload_n hC dJ0_init_031fb_4 rfl (jrf_ref _) ?_
  refine j_aload_n hC dJ0_init_031fb_5 rfl (jrf_ref _) ?_
  refine c_putF (fs' := [.ref (b), v1, v2, v3]) hC kp_J0_9 rfl dJ0_init_031fb_6 (h1) (by omega) (rfl) (rfl) rfl ?_
  refine j_aload_n hC dJ0_init_031fb_9 rfl (jrf_ref _) ?_
  refine j_iload_n hC dJ0_init_031fb_10 rfl ?_
  refine c_putF2 (fs' := [.ref (b), .int (nI (0)), v2, v3]) hC kp_J0_15 rfl dJ0_init_031fb_11 (by omega) (rfl) (rfl) rfl ?_
  exact j_vret hC9 rfl dJ0_init_031fb_14 (⟨rfl, rfl⟩)
theorem nI_nn {i : Nat} (h : i < 2 ^ 31) : ¬ nI i < 0 := by
  rw [show (0 : Int32) = nI 0 from rfl, Int32.lt_iff_toInt_lt, nI_toInt h, nI_toInt (show 0 < 2 ^ 31 by decide)]
  omega
def cutB (u : Nat → Nat) (i k : Nat) : Nat → Value := fun j => if j < k then .int (nI (u (i + j))) else .int 0
theorem cut_cpy {u : Nat → Nat} {i k : Nat} {g : Nat → Value} (hg : ∀ j, ¬ j < k → g j = .int 0) : va_cpy (fun j => .int (nI (u j))) g i 0 k = cutB u i k := by
  funext j
  unfold va_cpy cutB
  by_cases h : j < k
  · rw [if_pos (by omega), if_pos h, Nat.sub_zero]
  · rw [if_neg (by omega), if_neg h]; exact hg j h
theorem subT_at {L : List Nat} {a : Nat} : ∀ {k j : Nat}, j < k → (subT L a k).getD j 0 = L.getD (a + j) 0
  | k + 1, j, h => by
    simp only [subT]
    by_cases e : j < k
    · rw [List.getD_eq_getElem?_getD, List.getElem?_append_left (by rw [subT_len]; exact e), ← List.getD_eq_getElem?_getD, subT_at e]
    · obtain rfl : j = k := by omega
      rw [List.getD_eq_getElem?_getD, List.getElem?_append_right (by rw [subT_len]; exact Nat.le_refl _), subT_len, Nat.sub_self]
      rfl
theorem cut_at {u : Nat → Nat} {i k j : Nat} (hj : j < k) : cutB u i k j = .int (nI (u (i + j))) := if_pos hj
set_option maxHeartbeats 4000000 in
set_option maxRecDepth 100000 in
theorem m_J7_copyOfRangeByte_39247 {G : jG} {M : jM} {b i k n : Nat} {u : Nat → Nat} (hs : (gL G).stackTraces = false) (h4 : M.1 b = some (.inl (.byte, n, fun j => .int (nI (u j))))) (hu : ∀ j, u j ≤ 126) (hi : i + k ≤ n) (hn : n ≤ 20000 - 1) (hB : gB G ≤ b) : JMet G jJ7_copyOfRangeByte_39247 [.ref b, .int (nI i), .int (nI (i + k))] (M) 1 k 1 (fun v M' => v = some (.ref M.2) ∧ (∃ f, M'.1 M.2 = some (.inl (.byte, k, f)) ∧ ∀ j, j < k → f j = .int (nI (u (i + j)))) ∧ (∀ a o, M.1 a = some o → M'.1 a = some o) ∧ M'.2 = M.2 + 1) jNo := by
  refine jMet_of [some (.ref (b)), some (.int (nI (i))), some (.int (nI (i + k))), none, none] (by decide) rfl (Nat.le_of_ble_eq_true rfl) (rfl) hs ?_
  intro C hC9 hG
  have hC := hC9.z
  have hs9 := jOK0_tr hC
  refine j_lt (fun hlt => ?_)
  have hBg : jB C = gB G := by rw [jB, hG]
  subst hG
  have hb2 := hlt _ _ h4
  refine j_iload_n hC dJ7_copyOfRangeByte_39247_0 rfl ?_
  refine j_iload_n hC dJ7_copyOfRangeByte_39247_1 rfl ?_
  refine c_S hC ks_J7_343 rfl dJ7_copyOfRangeByte_39247_2 (m_J7_checkLength_df160 hs9 (by omega) (by omega)) rfl rfl (by decide) (Nat.le_of_ble_eq_true rfl) ?_
  refine j_iload_n hC dJ7_copyOfRangeByte_39247_5 rfl ?_
  refine j_iload_n hC dJ7_copyOfRangeByte_39247_6 rfl ?_
  refine n_isub hC dJ7_copyOfRangeByte_39247_7 (by omega) ?_
  refine j_top (by rw [show i + k - i = k by omega]) ?_
  refine j_istore_n3 hC dJ7_copyOfRangeByte_39247_8 (by decide) rfl ?_
  refine j_iload_n hC dJ7_copyOfRangeByte_39247_9 rfl ?_
  refine j_less2 (0 + k) (Nat.zero_add k) ?_
  refine c_newa_byte (kc := 0) (ks := 0) (N := k) hC dJ7_copyOfRangeByte_39247_10 (by omega) ?_
  refine j_astore_4 hC dJ7_copyOfRangeByte_39247_12 (jrf_ref _) (by decide) rfl ?_
  refine j_aload_n hC dJ7_copyOfRangeByte_39247_14 rfl (jrf_ref _) ?_
  refine j_iload_n hC dJ7_copyOfRangeByte_39247_15 rfl ?_
  refine j_aload hC dJ7_copyOfRangeByte_39247_16 rfl (jrf_ref _) ?_
  refine j_iconst (v := nI 0) hC dJ7_copyOfRangeByte_39247_18 (by decide) ?_
  refine j_aload_n hC dJ7_copyOfRangeByte_39247_19 rfl (jrf_ref _) ?_
  refine c_alen hC dJ7_copyOfRangeByte_39247_20 ((jnew_ne (by show (b) ≠ M.2; omega)).trans (h4)) ?_
  refine j_iload_n hC dJ7_copyOfRangeByte_39247_21 rfl ?_
  refine n_isub hC dJ7_copyOfRangeByte_39247_22 (by omega) ?_
  refine j_iload_n hC dJ7_copyOfRangeByte_39247_23 rfl ?_
  refine c_min (a := n - i) (b := k) hC ks_J7_304 dJ7_copyOfRangeByte_39247_24 (by omega) (by omega) (by decide) (Nat.le_of_ble_eq_true rfl) ?_
  refine j_top (show nI (min (n - i) k) = nI k by rw [show min (n - i) k = k by omega]) ?_
  refine j_copy hC ky_J7_150 ky_nat ky_sta ky_ini dJ7_copyOfRangeByte_39247_27 ((jnew_ne (by show (b) ≠ M.2; omega)).trans (h4)) (jnew_at) (by omega) (by omega) (nI_nn (by omega)) (by decide) (nI_nn (by omega)) (by rw [nI_clamp (show i < 2 ^ 31 by omega), nI_clamp (show k < 2 ^ 31 by omega)]; omega) (by rw [nI_clamp (show 0 < 2 ^ 31 by decide), nI_clamp (show k < 2 ^ 31 by omega)]; omega) (fun j hj => Or.inl ⟨rfl, fit_byt _ (by have := hu ((nI i).toNatClampNeg + j); omega)⟩) (by decide) (Nat.le_of_ble_eq_true rfl) ?_
  rw [nI_clamp (show i < 2 ^ 31 by omega), nI_clamp (show 0 < 2 ^ 31 by decide), nI_clamp (show k < 2 ^ 31 by omega), cut_cpy (fun j _ => rfl)]
  refine j_aload hC dJ7_copyOfRangeByte_39247_30 rfl (jrf_ref _) ?_
  exact j_aret hC9 rfl (by first | exact Or.inl ⟨_, rfl⟩ | exact Or.inr ⟨_, rfl⟩) dJ7_copyOfRangeByte_39247_32 (⟨rfl, ⟨_, jput_at, fun j hj => cut_at hj⟩, fun a9 o9 ha9 => by
  have hl9 := hlt _ _ ha9
  exact (jput_ne (by show (a9) ≠ (M.2); omega)).trans ((jnew_ne (by show (a9) ≠ M.2; omega)).trans (ha9)), rfl⟩) (jrf_ref _)
set_option maxHeartbeats 4000000 in
set_option maxRecDepth 100000 in
theorem m_J7_copyOfRange_39247 {G : jG} {M : jM} {b i k n : Nat} {u : Nat → Nat} (hs : (gL G).stackTraces = false) (h4 : M.1 b = some (.inl (.byte, n, fun j => .int (nI (u j))))) (hu : ∀ j, u j ≤ 126) (hi : i + k ≤ n) (hn : n ≤ 20000 - 1) (hB : gB G ≤ b) : JMet G jJ7_copyOfRange_39247 [.ref b, .int (nI i), .int (nI (i + k))] (M) 1 k 2 (fun v M' => v = some (.ref M.2) ∧ (∃ f, M'.1 M.2 = some (.inl (.byte, k, f)) ∧ ∀ j, j < k → f j = .int (nI (u (i + j)))) ∧ (∀ a o, M.1 a = some o → M'.1 a = some o) ∧ M'.2 = M.2 + 1) jNo := by
  refine jMet_of [some (.ref (b)), some (.int (nI (i))), some (.int (nI (i + k)))] (by decide) rfl (Nat.le_of_ble_eq_true rfl) (rfl) hs ?_
  intro C hC9 hG
  have hC := hC9.z
  have hs9 := jOK0_tr hC
  refine j_lt (fun hlt => ?_)
  have hBg : jB C = gB G := by rw [jB, hG]
  subst hG
  have hb2 := hlt _ _ h4
  refine j_iload_n hC dJ7_copyOfRange_39247_0 rfl ?_
  refine n_if_ne (tgt := 10) hC dJ7_copyOfRange_39247_1 (by decide) (by omega) (fun c1 => ?_) (fun c1 => ?_)
  · refine j_aload_n hC dJ7_copyOfRange_39247_10 rfl (jrf_ref _) ?_
    refine j_iload_n hC dJ7_copyOfRange_39247_11 rfl ?_
    refine j_iload_n hC dJ7_copyOfRange_39247_12 rfl ?_
    refine j_less2 (0 + k) (Nat.zero_add k) ?_
    refine c_Ps (kc := 0) (ks := 0) hC ks_J7_339 rfl dJ7_copyOfRange_39247_13 (m_J7_copyOfRangeByte_39247 hs9 h4 hu hi hn hB) rfl rfl (by decide) (Nat.le_of_ble_eq_true rfl) ?_
    intro v9 M1 h9
    obtain ⟨rfl, e1, e2, e3⟩ := h9
    exact j_aret hC9 rfl (by first | exact Or.inl ⟨_, rfl⟩ | exact Or.inr ⟨_, rfl⟩) dJ7_copyOfRange_39247_16 (⟨rfl, e1, e2, e3⟩) (jrf_ref _)
  · refine j_iload_n hC dJ7_copyOfRange_39247_4 rfl ?_
    refine j_aload_n hC dJ7_copyOfRange_39247_5 rfl (jrf_ref _) ?_
    refine c_alen hC dJ7_copyOfRange_39247_6 (h4) ?_
    refine n_icmp_eq (tgt := 17) hC dJ7_copyOfRange_39247_7 (by decide) (by omega) (by omega) (fun c2 => ?_) (fun c2 => ?_)
    · refine j_aload_n hC dJ7_copyOfRange_39247_17 rfl (jrf_ref _) ?_
      obtain rfl : k = n := by omega
      refine j_less (kc' := 1) (ks' := k) (by omega) (by omega) ?_
      refine j_clone hC ky_cl_l ky_cl_s ky_cl_n ky_cl_i ky_cl_e dJ7_copyOfRange_39247_18 h4 (by omega) (fun j hj => fit_byt _ (by have := hu j; omega)) (by decide) (Nat.le_of_ble_eq_true rfl) (Nat.le_refl _) (Nat.le_refl _) ?_
      refine j_castB hC ky_cl_c dJ7_copyOfRange_39247_21 jnew_at (by show _ ≤ M.2; omega) ?_
      exact j_aret hC9 rfl (by first | exact Or.inl ⟨_, rfl⟩ | exact Or.inr ⟨_, rfl⟩) dJ7_copyOfRange_39247_24 (⟨rfl, ⟨_, jnew_at, fun j hj => by rw [show i + j = j by omega]⟩, fun a9 o9 ha9 => (jnew_ne (by have := hlt _ _ ha9; omega)).trans ha9, rfl⟩) (jrf_ref _)
    · refine j_aload_n hC dJ7_copyOfRange_39247_10 rfl (jrf_ref _) ?_
      refine j_iload_n hC dJ7_copyOfRange_39247_11 rfl ?_
      refine j_iload_n hC dJ7_copyOfRange_39247_12 rfl ?_
      refine j_less2 (0 + k) (Nat.zero_add k) ?_
      refine c_Ps (kc := 0) (ks := 0) hC ks_J7_339 rfl dJ7_copyOfRange_39247_13 (m_J7_copyOfRangeByte_39247 hs9 h4 hu hi hn hB) rfl rfl (by decide) (Nat.le_of_ble_eq_true rfl) ?_
      intro v9 M1 h9
      obtain ⟨rfl, e1, e2, e3⟩ := h9
      exact j_aret hC9 rfl (by first | exact Or.inl ⟨_, rfl⟩ | exact Or.inr ⟨_, rfl⟩) dJ7_copyOfRange_39247_16 (⟨rfl, e1, e2, e3⟩) (jrf_ref _)
set_option maxHeartbeats 4000000 in
set_option maxRecDepth 100000 in
theorem m_J1_newString_b4f7a {G : jG} {M : jM} {b i k : Nat} {t : List Nat} (hs : (gL G).stackTraces = false) (h4 : M.1 b = some (.inl (.byte, t.length, fun j => .int (tCh t j)))) (h5 : tOK t) (hi : i + k ≤ t.length) (hB : gB G ≤ b) (hk0 : 0 < k) : JMet G jJ1_newString_b4f7a [.ref b, .int (nI i), .int (nI k)] (M) 2 (k + 4) 3 (fun v M' => v = some (.ref M.2) ∧ M'.1 M.2 = some (.inr (0, [.ref (M.2 + 1), .int (nI 0), .int 0, .int 0])) ∧ M'.1 (M.2 + 1) = some (.inl (.byte, k, fun j => .int (tCh (subT t i k) j))) ∧ (∀ a o, M.1 a = some o → M'.1 a = some o) ∧ M'.2 = M.2 + 2) jNo := by
  refine jMet_of [some (.ref (b)), some (.int (nI (i))), some (.int (nI (k)))] (by decide) rfl (Nat.le_of_ble_eq_true rfl) (rfl) hs ?_
  intro C hC9 hG
  have hC := hC9.z
  have hs9 := jOK0_tr hC
  refine j_lt (fun hlt => ?_)
  have hBg : jB C = gB G := by rw [jB, hG]
  subst hG
  have h6 := h5.1
  have hb2 := hlt _ _ h4
  refine j_iload_n hC dJ1_newString_b4f7a_0 rfl ?_
  refine n_if_ne (tgt := 7) hC dJ1_newString_b4f7a_1 (by decide) (by omega) (fun c1 => ?_) (fun c1 => ?_)
  · refine c_new (kc := 1) (ks := k) hC kn_J1_1 dJ1_newString_b4f7a_7 rfl ?_
    refine j_dup hC dJ1_newString_b4f7a_10 rfl ?_
    refine j_aload_n hC dJ1_newString_b4f7a_11 rfl (jrf_ref _) ?_
    refine j_iload_n hC dJ1_newString_b4f7a_12 rfl ?_
    refine j_iload_n hC dJ1_newString_b4f7a_13 rfl ?_
    refine j_iload_n hC dJ1_newString_b4f7a_14 rfl ?_
    refine n_iadd hC dJ1_newString_b4f7a_15 ?_
    refine j_less2 (0 + k) (Nat.zero_add k) ?_
    refine c_Ps (kc := 0) (ks := 0) hC ks_J1_232 rfl dJ1_newString_b4f7a_16 (m_J7_copyOfRange_39247 (u := fun j => t.getD j 0) hs9 ((jnew_ne (by show (b) ≠ M.2; omega)).trans (h4)) (fun j => chr_le h5) hi (by omega) hB) rfl rfl (by decide) (Nat.le_of_ble_eq_true rfl) ?_
    intro v9 M1 h9
    obtain ⟨rfl, ⟨fr, e1, e0⟩, e2, e3⟩ := h9
    replace e1 : M1.1 (M.2 + 1) = _ := e1
    replace e3 : M1.2 = M.2 + 1 + 1 := e3
    refine j_topV (v' := .ref (M.2 + 1)) rfl ?_
    refine j_iconst (v := nI 0) hC dJ1_newString_b4f7a_19 (by decide) ?_
    refine c_Ik (kc' := 0) (ks' := 0) (kc := 0) (ks := 0) hC ki_J1_112 dJ1_newString_b4f7a_20 (m_J0_init_031fb (b := M.2 + 1) hs9 (e2 _ _ (jnew_at)) (by omega)) rfl rfl (by decide) (Nat.le_of_ble_eq_true rfl) ?_
    refine j_ext (g := fun j => .int (tCh (subT t i k) j)) ((jput_ne (show M.2 + 1 ≠ M.2 by omega)).trans e1) (by omega) (fun j hj => by rw [e0 j hj, tCh_at, subT_at hj]) ?_
    exact j_aret hC9 rfl (by first | exact Or.inl ⟨_, rfl⟩ | exact Or.inr ⟨_, rfl⟩) dJ1_newString_b4f7a_23 (⟨rfl, (jput_ne (show M.2 ≠ M.2 + 1 by omega)).trans jput_at, jput_at, fun a9 o9 ha9 => by
  have hl9 := hlt _ _ ha9
  exact (jput_ne (show a9 ≠ M.2 + 1 by omega)).trans ((jput_ne (show a9 ≠ M.2 by omega)).trans (e2 _ _ ((jnew_ne (show a9 ≠ M.2 by omega)).trans ha9))), e3⟩) (jrf_ref _)
  · exact (show False by omega).elim
set_option maxHeartbeats 4000000 in
set_option maxRecDepth 100000 in
theorem m_J0_substring_37a41 {G : jG} {M : jM} {a i j : Nat} {t : List Nat} (hs : (gL G).stackTraces = false) (h : strR M.1 a t) (hij : i < j) (hj : j ≤ t.length) (hB : ∀ b fs, M.1 a = some (.inr (0, fs)) → fs[0]? = some (.ref b) → gB G ≤ b) : JMet G jJ0_substring_37a41 [.ref a, .int (nI i), .int (nI j)] (M) 2 (j - i + 4) 4 (fun v M' => (v = some (.ref a) ∧ M' = M ∧ i = 0 ∧ j = t.length) ∨ (v = some (.ref M.2) ∧ M'.1 M.2 = some (.inr (0, [.ref (M.2 + 1), .int (nI 0), .int 0, .int 0])) ∧ M'.1 (M.2 + 1) = some (.inl (.byte, j - i, fun j' => .int (tCh (subT t i (j - i)) j'))) ∧ (∀ a o, M.1 a = some o → M'.1 a = some o) ∧ M'.2 = M.2 + 2)) jNo := by
  refine jMet_of [some (.ref (a)), some (.int (nI (i))), some (.int (nI (j))), none, none] (by decide) rfl (Nat.le_of_ble_eq_true rfl) (rfl) hs ?_
  intro C hC9 hG
  have hC := hC9.z
  have hs9 := jOK0_tr hC
  refine j_lt (fun hlt => ?_)
  have hBg : jB C = gB G := by rw [jB, hG]
  subst hG
  obtain ⟨⟨b, fs, h1, h2, h3, h4⟩, h5⟩ := id h
  have h6 := h5.1
  have hBb := hB b fs h1 h2
  refine j_aload_n hC dJ0_substring_37a41_0 rfl (jrf_ref _) ?_
  refine c_V hC kv_J0_505 dJ0_substring_37a41_1 (m_J0_length_8abf5 hs9 h) (h1) rfl rfl rfl rfl (by decide) (Nat.le_of_ble_eq_true rfl) ?_
  refine j_istore_n3 hC dJ0_substring_37a41_4 (by decide) rfl ?_
  refine j_iload_n hC dJ0_substring_37a41_5 rfl ?_
  refine j_iload_n hC dJ0_substring_37a41_6 rfl ?_
  refine j_iload_n hC dJ0_substring_37a41_7 rfl ?_
  refine c_S hC ks_J0_521 rfl dJ0_substring_37a41_8 (m_J0_checkBoundsBeginEnd_23922 hs9 (by omega) (by omega) (by omega)) rfl rfl (by decide) (Nat.le_of_ble_eq_true rfl) ?_
  refine j_iload_n hC dJ0_substring_37a41_11 rfl ?_
  refine n_if_ne (tgt := 22) hC dJ0_substring_37a41_12 (by decide) (by omega) (fun c1 => ?_) (fun c1 => ?_)
  · refine j_iload_n hC dJ0_substring_37a41_22 rfl ?_
    refine j_iload_n hC dJ0_substring_37a41_23 rfl ?_
    refine n_isub hC dJ0_substring_37a41_24 (by omega) ?_
    refine j_istore_4 hC dJ0_substring_37a41_25 (by decide) rfl ?_
    refine j_aload_n hC dJ0_substring_37a41_27 rfl (jrf_ref _) ?_
    refine c_V hC kv_J0_492 dJ0_substring_37a41_28 (m_J0_isLatin1_aae02 hs9 h) (h1) rfl rfl rfl rfl (by decide) (Nat.le_of_ble_eq_true rfl) ?_
    refine n_if_eq (tgt := 47) hC dJ0_substring_37a41_31 (by decide) (by omega) (fun c2 => ?_) (fun c2 => ?_)
    · exact absurd c2 (by decide)
    · refine j_aload_n hC dJ0_substring_37a41_34 rfl (jrf_ref _) ?_
      refine j_get (v := .ref (b)) hC kf_J0_9 dJ0_substring_37a41_35 (h1) (h2) ?_
      refine j_iload_n hC dJ0_substring_37a41_38 rfl ?_
      refine j_iload hC dJ0_substring_37a41_39 rfl ?_
      refine j_less2 (0 + (j - i + 4)) (Nat.zero_add _) ?_
      refine c_Ps (kc := 0) (ks := 0) hC ks_J0_685 rfl dJ0_substring_37a41_41 (m_J1_newString_b4f7a hs9 h4 h5 (by omega) (by omega) (by omega)) rfl rfl (by decide) (Nat.le_of_ble_eq_true rfl) ?_
      intro v9 M1 h9
      obtain ⟨rfl, e1, e2, e3, e4⟩ := h9
      refine j_goto (tgt := 57) hC dJ0_substring_37a41_44 (by decide) ?_
      exact j_aret hC9 rfl (by first | exact Or.inl ⟨_, rfl⟩ | exact Or.inr ⟨_, rfl⟩) dJ0_substring_37a41_57 (Or.inr ⟨rfl, e1, e2, e3, e4⟩) (jrf_ref _)
  · refine j_iload_n hC dJ0_substring_37a41_15 rfl ?_
    refine j_iload_n hC dJ0_substring_37a41_16 rfl ?_
    refine n_icmp_ne (tgt := 22) hC dJ0_substring_37a41_17 (by decide) (by omega) (by omega) (fun c3 => ?_) (fun c3 => ?_)
    · refine j_iload_n hC dJ0_substring_37a41_22 rfl ?_
      refine j_iload_n hC dJ0_substring_37a41_23 rfl ?_
      refine n_isub hC dJ0_substring_37a41_24 (by omega) ?_
      refine j_istore_4 hC dJ0_substring_37a41_25 (by decide) rfl ?_
      refine j_aload_n hC dJ0_substring_37a41_27 rfl (jrf_ref _) ?_
      refine c_V hC kv_J0_492 dJ0_substring_37a41_28 (m_J0_isLatin1_aae02 hs9 h) (h1) rfl rfl rfl rfl (by decide) (Nat.le_of_ble_eq_true rfl) ?_
      refine n_if_eq (tgt := 47) hC dJ0_substring_37a41_31 (by decide) (by omega) (fun c4 => ?_) (fun c4 => ?_)
      · exact absurd c4 (by decide)
      · refine j_aload_n hC dJ0_substring_37a41_34 rfl (jrf_ref _) ?_
        refine j_get (v := .ref (b)) hC kf_J0_9 dJ0_substring_37a41_35 (h1) (h2) ?_
        refine j_iload_n hC dJ0_substring_37a41_38 rfl ?_
        refine j_iload hC dJ0_substring_37a41_39 rfl ?_
        refine j_less2 (0 + (j - i + 4)) (Nat.zero_add _) ?_
        refine c_Ps (kc := 0) (ks := 0) hC ks_J0_685 rfl dJ0_substring_37a41_41 (m_J1_newString_b4f7a hs9 h4 h5 (by omega) (by omega) (by omega)) rfl rfl (by decide) (Nat.le_of_ble_eq_true rfl) ?_
        intro v9 M1 h9
        obtain ⟨rfl, e1, e2, e3, e4⟩ := h9
        refine j_goto (tgt := 57) hC dJ0_substring_37a41_44 (by decide) ?_
        exact j_aret hC9 rfl (by first | exact Or.inl ⟨_, rfl⟩ | exact Or.inr ⟨_, rfl⟩) dJ0_substring_37a41_57 (Or.inr ⟨rfl, e1, e2, e3, e4⟩) (jrf_ref _)
    · refine j_aload_n hC dJ0_substring_37a41_20 rfl (jrf_ref _) ?_
      exact j_aret hC9 rfl (by first | exact Or.inl ⟨_, rfl⟩ | exact Or.inr ⟨_, rfl⟩) dJ0_substring_37a41_21 (Or.inl ⟨rfl, rfl, by omega, by omega⟩) (jrf_ref _)
