theorem kg_J0_38 : Cond.fieldLink RJ0 38 "java/lang/String" "COMPACT_STRINGS" "Z" ∈ jWs := jWs_of 386 (by decide +kernel) rfl
theorem kg_J5_18 : Cond.fieldLink RJ5 18 "java/lang/String" "COMPACT_STRINGS" "Z" ∈ jWs := jWs_of 126 (by decide +kernel) rfl
theorem kg_J0_1053 : Cond.fieldLink RJ0 1053 "jdk/internal/util/Preconditions" "SIOOBE_FORMATTER" "Ljava/util/function/BiFunction;" ∈ jWs := jWs_of 406 (by decide +kernel) rfl
theorem kq_J6_265 : Cond.constant RJ6 265 (1431655765 : Int32) ∈ jWs := jWs_of 1040 (by decide +kernel) rfl
theorem kq_J6_266 : Cond.constant RJ6 266 (858993459 : Int32) ∈ jWs := jWs_of 1041 (by decide +kernel) rfl
theorem kq_J6_267 : Cond.constant RJ6 267 (252645135 : Int32) ∈ jWs := jWs_of 1042 (by decide +kernel) rfl
theorem ky_nat : Cond.native arraycopyName ∈ jWs := jWs_of 588 (by decide +kernel) rfl
theorem ky_sta : Cond.static arraycopyName ∈ jWs := jWs_of 587 (by decide +kernel) rfl
theorem ky_ini : Cond.initialized "java/lang/System" ∈ jWs := jWs_of 93 (by decide +kernel) rfl
theorem ky_J7_150 : Cond.methodLink RJ7 150 arraycopyName ∈ jWs := jWs_of 586 (by decide +kernel) rfl
section C1
variable {C : jC} {y : jY} {d : Nat} {M : jM} {kc ks pc : Nat} {l : List (Option Value)} {st : List Value}
theorem c_compact (hC : jOK0 y d C) {idx : Nat} (hl : Cond.fieldLink y.1.cls idx "java/lang/String" "COMPACT_STRINGS" "Z" ∈ jWs) (hd : decode y.2.1 pc = .ok (.getstatic idx, 3)) (kk : J C M kc ks (pc + 3) l (.int (nI 1) :: st)) : J C M kc ks pc l st := j_compact hC hl hd kk
end C1
theorem strR.obj {H : jH} {a : Nat} {t : List Nat} (h : strR H a t) : ∃ fs, H a = some (.inr (0, fs)) := by
  obtain ⟨⟨b, fs, h1, -⟩, -⟩ := h
  exact ⟨fs, h1⟩
theorem txtR.obj {H : jH} {a : Nat} {t : List Nat} (h : txtR H a t) : ∃ fs, H a = some (.inr (12, fs)) := by
  obtain ⟨s, h1, -⟩ := h
  exact ⟨_, h1⟩
theorem jrf_c1 {v : Value} (h : jrf v) : jc1 (some v) = true := by
  rcases h with rfl | ⟨a, rfl⟩ <;> rfl
section C2
variable {C : jC} {y : jY} {d : Nat} {M : jM} {kc ks pc : Nat} {l : List (Option Value)} {st : List Value}
theorem min_n {a b : Nat} (ha : a < 2 ^ 31) (hb : b < 2 ^ 31) : (if nI b < nI a then nI b else nI a) = nI (min a b) := by
  rw [Nat.min_def]
  by_cases h : a ≤ b
  · rw [if_pos h, if_neg (by rw [Int32.lt_iff_toInt_lt, nI_toInt ha, nI_toInt hb]; omega)]
  · rw [if_neg h, if_pos (by rw [Int32.lt_iff_toInt_lt, nI_toInt ha, nI_toInt hb]; omega)]
theorem max_n {a b : Nat} (ha : a < 2 ^ 31) (hb : b < 2 ^ 31) : (if nI a < nI b then nI b else nI a) = nI (max a b) := by
  rw [Nat.max_def]
  by_cases h : a < b
  · rw [if_pos (show nI a < nI b by rw [Int32.lt_iff_toInt_lt, nI_toInt ha, nI_toInt hb]; omega), if_pos (show a ≤ b by omega)]
  · rw [if_neg (show ¬ nI a < nI b by rw [Int32.lt_iff_toInt_lt, nI_toInt ha, nI_toInt hb]; omega)]
    by_cases h2 : a ≤ b
    · rw [if_pos h2, show a = b by omega]
    · rw [if_neg h2]
theorem j_min (hC : jOK0 y d C) {idx : Nat} {x z : Int32} (hm : jMs y.1.cls idx jJ9_min_7cf53 2) (hd : decode y.2.1 pc = .ok (.invokestatic idx, 3)) (hd1 : 1 ≤ d) (hrest : (st.map fun v => v.category).sum ≤ 8) (kk : J C M kc ks (pc + 3) l (.int (if z < x then z else x) :: st)) : J C M kc ks pc l (.int z :: .int x :: st) := by
  obtain ⟨p, e, R, s, m, args, below, meth, c, Q, G⟩ := C
  obtain ⟨hx, hb, hr, hml, hown, hts, hlk, hnm, htb, hdf, hdl, hfl, hA⟩ := hC
  intro H locs cells slots ls h1 h2 h3 h4 h5
  obtain ⟨⟨m1, m2, m3, m4, m5, m6⟩, m8, m9⟩ := hm
  exact va_mmin hx hb h3.1.symm hown (hts _ m8) (hts _ m9) (hts _ m2) (hts _ m1) (by omega) (by omega) (by omega) (by omega) hd (kk H locs cells slots ls h1 h2 h3 h4 h5)
theorem j_max (hC : jOK0 y d C) {idx : Nat} {x z : Int32} (hm : jMs y.1.cls idx jJ9_max_7cf53 2) (hd : decode y.2.1 pc = .ok (.invokestatic idx, 3)) (hd1 : 1 ≤ d) (hrest : (st.map fun v => v.category).sum ≤ 8) (kk : J C M kc ks (pc + 3) l (.int (if x < z then z else x) :: st)) : J C M kc ks pc l (.int z :: .int x :: st) := by
  obtain ⟨p, e, R, s, m, args, below, meth, c, Q, G⟩ := C
  obtain ⟨hx, hb, hr, hml, hown, hts, hlk, hnm, htb, hdf, hdl, hfl, hA⟩ := hC
  intro H locs cells slots ls h1 h2 h3 h4 h5
  obtain ⟨⟨m1, m2, m3, m4, m5, m6⟩, m8, m9⟩ := hm
  exact va_mmax hx hb h3.1.symm hown (hts _ m8) (hts _ m9) (hts _ m2) (hts _ m1) (by omega) (by omega) (by omega) (by omega) hd (kk H locs cells slots ls h1 h2 h3 h4 h5)
theorem j_abs (hC : jOK0 y d C) {idx : Nat} {x : Int32} (hm : jMs y.1.cls idx jJ9_abs_0f7a4 1) (hd : decode y.2.1 pc = .ok (.invokestatic idx, 3)) (hd1 : 1 ≤ d) (hrest : (st.map fun v => v.category).sum ≤ 8) (kk : J C M kc ks (pc + 3) l (.int (if 0 ≤ x then x else 0 - x) :: st)) : J C M kc ks pc l (.int x :: st) := by
  obtain ⟨p, e, R, s, m, args, below, meth, c, Q, G⟩ := C
  obtain ⟨hx, hb, hr, hml, hown, hts, hlk, hnm, htb, hdf, hdl, hfl, hA⟩ := hC
  intro H locs cells slots ls h1 h2 h3 h4 h5
  obtain ⟨⟨m1, m2, m3, m4, m5, m6⟩, m8, m9⟩ := hm
  exact va_mabs hx hb h3.1.symm hown (hts _ m8) (hts _ m9) (hts _ m2) (hts _ m1) (by omega) (by omega) (by omega) (by omega) hd (kk H locs cells slots ls h1 h2 h3 h4 h5)
theorem c_min (hC : jOK0 y d C) {idx a b : Nat} (hm : jMs y.1.cls idx jJ9_min_7cf53 2) (hd : decode y.2.1 pc = .ok (.invokestatic idx, 3)) (ha : a < 2 ^ 31) (hb : b < 2 ^ 31) (hd1 : 1 ≤ d) (hrest : (st.map fun v => v.category).sum ≤ 8) (kk : J C M kc ks (pc + 3) l (.int (nI (min a b)) :: st)) : J C M kc ks pc l (.int (nI b) :: .int (nI a) :: st) := j_min hC hm hd hd1 hrest (by rw [min_n ha hb]; exact kk)
theorem c_max (hC : jOK0 y d C) {idx a b : Nat} (hm : jMs y.1.cls idx jJ9_max_7cf53 2) (hd : decode y.2.1 pc = .ok (.invokestatic idx, 3)) (ha : a < 2 ^ 31) (hb : b < 2 ^ 31) (hd1 : 1 ≤ d) (hrest : (st.map fun v => v.category).sum ≤ 8) (kk : J C M kc ks (pc + 3) l (.int (nI (max a b)) :: st)) : J C M kc ks pc l (.int (nI b) :: .int (nI a) :: st) := j_max hC hm hd hd1 hrest (by rw [max_n ha hb]; exact kk)
end C2
set_option maxHeartbeats 4000000 in
set_option maxRecDepth 100000 in
theorem m_J3_checkIndex_8e157 {G : jG} {M : jM} {i n : Nat} {v : Value} (hs : (gL G).stackTraces = false) (hi : i < n) (hn : n < 2 ^ 31) (hv : jrf v) : CM G M jJ3_checkIndex_8e157 0 0 0 [.int (nI i), .int (nI n), v] (some (.int (nI i))) (M) := by
  refine jMet_of [some (.int (nI (i))), some (.int (nI (n))), some (v)] (by decide) rfl (by rcases hv with rfl | ⟨a9, rfl⟩ <;> exact Nat.le_of_ble_eq_true rfl) (by rcases hv with rfl | ⟨a9, rfl⟩ <;> rfl) hs ?_
  intro C hC9 hG
  have hC := hC9.z
  have hs9 := jOK0_tr hC
  refine j_iload_n hC dJ3_checkIndex_8e157_0 rfl ?_
  refine n_if_lt (tgt := 9) hC dJ3_checkIndex_8e157_1 (by decide) (by omega) (fun c1 => ?_) (fun c1 => ?_)
  · exact (show False by omega).elim
  · refine j_iload_n hC dJ3_checkIndex_8e157_4 rfl ?_
    refine j_iload_n hC dJ3_checkIndex_8e157_5 rfl ?_
    refine n_icmp_lt (tgt := 16) hC dJ3_checkIndex_8e157_6 (by decide) (by omega) (by omega) (fun c2 => ?_) (fun c2 => ?_)
    · refine j_iload_n hC dJ3_checkIndex_8e157_16 rfl ?_
      exact j_iret hC9 rfl (rfl) dJ3_checkIndex_8e157_17 ⟨rfl, rfl⟩
    · exact (show False by omega).elim
set_option maxHeartbeats 4000000 in
set_option maxRecDepth 100000 in
theorem m_J0_checkIndex_df160 {G : jG} {M : jM} {i n : Nat} (hs : (gL G).stackTraces = false) (hi : i < n) (hn : n < 2 ^ 31) : CM G M jJ0_checkIndex_df160 0 0 1 [.int (nI i), .int (nI n)] (none) (M) := by
  refine jMet_of [some (.int (nI (i))), some (.int (nI (n)))] (by decide) rfl (Nat.le_of_ble_eq_true rfl) (rfl) hs ?_
  intro C hC9 hG
  have hC := hC9.z
  have hs9 := jOK0_tr hC
  refine j_iload_n hC dJ0_checkIndex_df160_0 rfl ?_
  refine j_iload_n hC dJ0_checkIndex_df160_1 rfl ?_
  refine j_sioobe hC kg_J0_1053 dJ0_checkIndex_df160_2 (fun v9 hv9 => ?_)
  refine c_S hC ks_J0_1059 rfl dJ0_checkIndex_df160_5 (m_J3_checkIndex_8e157 hs9 (by omega) (by omega) hv9) rfl rfl (by decide) (Nat.le_of_ble_eq_true rfl) ?_
  refine j_pop hC dJ0_checkIndex_df160_8 rfl ?_
  exact j_vret hC9 rfl dJ0_checkIndex_df160_9 ⟨rfl, rfl⟩
set_option maxHeartbeats 4000000 in
set_option maxRecDepth 100000 in
theorem m_J0_coder_7d493 {G : jG} {M : jM} {a : Nat} {t : List Nat} (hs : (gL G).stackTraces = false) (h : strR M.1 a t) : CM G M jJ0_coder_7d493 0 0 0 [.ref a] (some (.int (nI 0))) (M) := by
  refine jMet_of [some (.ref (a))] (by decide) rfl (Nat.le_of_ble_eq_true rfl) (rfl) hs ?_
  intro C hC9 hG
  have hC := hC9.z
  have hs9 := jOK0_tr hC
  obtain ⟨⟨b, fs, h1, h2, h3, h4⟩, h5⟩ := id h
  have h6 := h5.1
  refine c_compact hC kg_J0_38 dJ0_coder_7d493_0 ?_
  refine n_if_eq (tgt := 13) hC dJ0_coder_7d493_3 (by decide) (by omega) (fun c1 => ?_) (fun c1 => ?_)
  · exact absurd c1 (by decide)
  · refine j_aload_n hC dJ0_coder_7d493_6 rfl (jrf_ref _) ?_
    refine j_get (v := .int (nI (0))) hC kf_J0_15 dJ0_coder_7d493_7 (h1) (h3) ?_
    refine j_goto (tgt := 14) hC dJ0_coder_7d493_10 (by decide) ?_
    exact j_iret hC9 rfl (rfl) dJ0_coder_7d493_14 ⟨rfl, rfl⟩
set_option maxHeartbeats 4000000 in
set_option maxRecDepth 100000 in
theorem m_J0_isLatin1_aae02 {G : jG} {M : jM} {a : Nat} {t : List Nat} (hs : (gL G).stackTraces = false) (h : strR M.1 a t) : CM G M jJ0_isLatin1_aae02 0 0 0 [.ref a] (some (.int (nI 1))) (M) := by
  refine jMet_of [some (.ref (a))] (by decide) rfl (Nat.le_of_ble_eq_true rfl) (rfl) hs ?_
  intro C hC9 hG
  have hC := hC9.z
  have hs9 := jOK0_tr hC
  obtain ⟨⟨b, fs, h1, h2, h3, h4⟩, h5⟩ := id h
  have h6 := h5.1
  refine c_compact hC kg_J0_38 dJ0_isLatin1_aae02_0 ?_
  refine n_if_eq (tgt := 17) hC dJ0_isLatin1_aae02_3 (by decide) (by omega) (fun c1 => ?_) (fun c1 => ?_)
  · exact absurd c1 (by decide)
  · refine j_aload_n hC dJ0_isLatin1_aae02_6 rfl (jrf_ref _) ?_
    refine j_get (v := .int (nI (0))) hC kf_J0_15 dJ0_isLatin1_aae02_7 (h1) (h3) ?_
    refine n_if_ne (tgt := 17) hC dJ0_isLatin1_aae02_10 (by decide) (by omega) (fun c2 => ?_) (fun c2 => ?_)
    · exact absurd c2 (by decide)
    · refine j_iconst (v := nI 1) hC dJ0_isLatin1_aae02_13 (by decide) ?_
      refine j_goto (tgt := 18) hC dJ0_isLatin1_aae02_14 (by decide) ?_
      exact j_iret hC9 rfl (rfl) dJ0_isLatin1_aae02_18 ⟨rfl, rfl⟩
set_option maxHeartbeats 4000000 in
set_option maxRecDepth 100000 in
theorem m_J0_length_8abf5 {G : jG} {M : jM} {a : Nat} {t : List Nat} (hs : (gL G).stackTraces = false) (h : strR M.1 a t) : CM G M jJ0_length_8abf5 0 0 1 [.ref a] (some (.int (nI t.length))) (M) := by
  refine jMet_of [some (.ref (a))] (by decide) rfl (Nat.le_of_ble_eq_true rfl) (rfl) hs ?_
  intro C hC9 hG
  have hC := hC9.z
  have hs9 := jOK0_tr hC
  obtain ⟨⟨b, fs, h1, h2, h3, h4⟩, h5⟩ := id h
  have h6 := h5.1
  refine j_aload_n hC dJ0_length_8abf5_0 rfl (jrf_ref _) ?_
  refine j_get (v := .ref (b)) hC kf_J0_9 dJ0_length_8abf5_1 (h1) (h2) ?_
  refine c_alen hC dJ0_length_8abf5_4 (h4) ?_
  refine j_aload_n hC dJ0_length_8abf5_5 rfl (jrf_ref _) ?_
  refine c_V hC kv_J0_335 dJ0_length_8abf5_6 (m_J0_coder_7d493 hs9 h) (h1) rfl rfl rfl rfl (by decide) (Nat.le_of_ble_eq_true rfl) ?_
  refine j_ishr hC dJ0_length_8abf5_9 ?_
  exact j_iret hC9 rfl (rfl) dJ0_length_8abf5_10 ⟨(jv (nI_sh0 (by omega))), rfl⟩
set_option maxHeartbeats 4000000 in
set_option maxRecDepth 100000 in
theorem m_J0_isEmpty_aae02 {G : jG} {M : jM} {a : Nat} {t : List Nat} (hs : (gL G).stackTraces = false) (h : strR M.1 a t) : CM G M jJ0_isEmpty_aae02 0 0 0 [.ref a] (some (.int (jb (t.length = 0)))) (M) := by
  refine jMet_of [some (.ref (a))] (by decide) rfl (Nat.le_of_ble_eq_true rfl) (rfl) hs ?_
  intro C hC9 hG
  have hC := hC9.z
  have hs9 := jOK0_tr hC
  obtain ⟨⟨b, fs, h1, h2, h3, h4⟩, h5⟩ := id h
  have h6 := h5.1
  refine j_aload_n hC dJ0_isEmpty_aae02_0 rfl (jrf_ref _) ?_
  refine j_get (v := .ref (b)) hC kf_J0_9 dJ0_isEmpty_aae02_1 (h1) (h2) ?_
  refine c_alen hC dJ0_isEmpty_aae02_4 (h4) ?_
  refine n_if_ne (tgt := 12) hC dJ0_isEmpty_aae02_5 (by decide) (by omega) (fun c1 => ?_) (fun c1 => ?_)
  · refine j_iconst (v := nI 0) hC dJ0_isEmpty_aae02_12 (by decide) ?_
    exact j_iret hC9 rfl (rfl) dJ0_isEmpty_aae02_13 ⟨(jv (jb_f0 (by omega))), rfl⟩
  · refine j_iconst (v := nI 1) hC dJ0_isEmpty_aae02_8 (by decide) ?_
    refine j_goto (tgt := 13) hC dJ0_isEmpty_aae02_9 (by decide) ?_
    exact j_iret hC9 rfl (rfl) dJ0_isEmpty_aae02_13 ⟨(jv (jb_t1 (by omega))), rfl⟩
set_option maxHeartbeats 4000000 in
set_option maxRecDepth 100000 in
theorem m_J1_charAt_3b067 {G : jG} {M : jM} {b i : Nat} {t : List Nat} (hs : (gL G).stackTraces = false) (h4 : M.1 b = some (.inl (.byte, t.length, fun j => .int (tCh t j)))) (hi : i < t.length) (h5 : tOK t) : CM G M jJ1_charAt_3b067 0 0 2 [.ref b, .int (nI i)] (some (.int (nI (t.getD i 0)))) (M) := by
  refine jMet_of [some (.ref (b)), some (.int (nI (i)))] (by decide) rfl (Nat.le_of_ble_eq_true rfl) (rfl) hs ?_
  intro C hC9 hG
  have hC := hC9.z
  have hs9 := jOK0_tr hC
  have h6 := h5.1
  have h7 := chr_le h5 (i := i)
  refine j_iload_n hC dJ1_charAt_3b067_0 rfl ?_
  refine j_aload_n hC dJ1_charAt_3b067_1 rfl (jrf_ref _) ?_
  refine c_alen hC dJ1_charAt_3b067_2 (h4) ?_
  refine c_S hC ks_J1_9 rfl dJ1_charAt_3b067_3 (m_J0_checkIndex_df160 hs9 (by omega) (by omega)) rfl rfl (by decide) (Nat.le_of_ble_eq_true rfl) ?_
  refine j_aload_n hC dJ1_charAt_3b067_6 rfl (jrf_ref _) ?_
  refine j_iload_n hC dJ1_charAt_3b067_7 rfl ?_
  refine c_bald (i := i) (x := nI (t.getD (i) 0)) hC dJ1_charAt_3b067_8 (h4) (by omega) (by omega) (rfl) ?_
  refine j_sipush (v := nI 255) hC dJ1_charAt_3b067_9 (by decide) ?_
  refine j_iand hC dJ1_charAt_3b067_12 ?_
  refine j_i2c hC dJ1_charAt_3b067_13 ?_
  exact j_iret hC9 rfl (by rw [nI_chr _ (by omega)]; exact nar_chr _ (by omega)) dJ1_charAt_3b067_14 ⟨(jv (nI_chr _ (by omega))), rfl⟩
set_option maxHeartbeats 4000000 in
set_option maxRecDepth 100000 in
theorem m_J0_charAt_5068e {G : jG} {M : jM} {a i : Nat} {t : List Nat} (hs : (gL G).stackTraces = false) (h : strR M.1 a t) (hi : i < t.length) : CM G M jJ0_charAt_5068e 0 0 3 [.ref a, .int (nI i)] (some (.int (nI (t.getD i 0)))) (M) := by
  refine jMet_of [some (.ref (a)), some (.int (nI (i)))] (by decide) rfl (Nat.le_of_ble_eq_true rfl) (rfl) hs ?_
  intro C hC9 hG
  have hC := hC9.z
  have hs9 := jOK0_tr hC
  obtain ⟨⟨b, fs, h1, h2, h3, h4⟩, h5⟩ := id h
  have h6 := h5.1
  have h7 := chr_le h5 (i := i)
  refine j_aload_n hC dJ0_charAt_5068e_0 rfl (jrf_ref _) ?_
  refine c_V hC kv_J0_492 dJ0_charAt_5068e_1 (m_J0_isLatin1_aae02 hs9 h) (h1) rfl rfl rfl rfl (by decide) (Nat.le_of_ble_eq_true rfl) ?_
  refine n_if_eq (tgt := 16) hC dJ0_charAt_5068e_4 (by decide) (by omega) (fun c1 => ?_) (fun c1 => ?_)
  · exact absurd c1 (by decide)
  · refine j_aload_n hC dJ0_charAt_5068e_7 rfl (jrf_ref _) ?_
    refine j_get (v := .ref (b)) hC kf_J0_9 dJ0_charAt_5068e_8 (h1) (h2) ?_
    refine j_iload_n hC dJ0_charAt_5068e_11 rfl ?_
    refine c_S hC ks_J0_495 rfl dJ0_charAt_5068e_12 (m_J1_charAt_3b067 hs9 h4 (by omega) h5) rfl rfl (by decide) (Nat.le_of_ble_eq_true rfl) ?_
    exact j_iret hC9 rfl (nar_chr _ (by omega)) dJ0_charAt_5068e_15 ⟨rfl, rfl⟩
set_option maxHeartbeats 4000000 in
set_option maxRecDepth 100000 in
theorem m_X8_length {G : jG} {M : jM} {a : Nat} {t : List Nat} (hs : (gL G).stackTraces = false) (h : txtR M.1 a t) : CM G M jX8_length 0 0 2 [.ref a] (some (.int (nI t.length))) (M) := by
  refine jMet_of [some (.ref (a))] (by decide) rfl (Nat.le_of_ble_eq_true rfl) (rfl) hs ?_
  intro C hC9 hG
  have hC := hC9.z
  have hs9 := jOK0_tr hC
  obtain ⟨s, g1, g2⟩ := id h
  obtain ⟨fs, g3⟩ := g2.obj
  have g5 := g2.2
  have g4 := g5.1
  refine j_aload_n hC dX8_length_0 rfl (jrf_ref _) ?_
  refine j_get (v := .ref (s)) hC kf_X8_7 dX8_length_1 (g1) (rfl) ?_
  refine c_V hC kv_X8_13 dX8_length_4 (m_J0_length_8abf5 hs9 g2) (g3) rfl rfl rfl rfl (by decide) (Nat.le_of_ble_eq_true rfl) ?_
  exact j_iret hC9 rfl (rfl) dX8_length_7 ⟨rfl, rfl⟩
set_option maxHeartbeats 4000000 in
set_option maxRecDepth 100000 in
theorem m_X8_isEmpty {G : jG} {M : jM} {a : Nat} {t : List Nat} (hs : (gL G).stackTraces = false) (h : txtR M.1 a t) : CM G M jX8_isEmpty 0 0 1 [.ref a] (some (.int (jb (t.length = 0)))) (M) := by
  refine jMet_of [some (.ref (a))] (by decide) rfl (Nat.le_of_ble_eq_true rfl) (rfl) hs ?_
  intro C hC9 hG
  have hC := hC9.z
  have hs9 := jOK0_tr hC
  obtain ⟨s, g1, g2⟩ := id h
  obtain ⟨fs, g3⟩ := g2.obj
  have g5 := g2.2
  have g4 := g5.1
  refine j_aload_n hC dX8_isEmpty_0 rfl (jrf_ref _) ?_
  refine j_get (v := .ref (s)) hC kf_X8_7 dX8_isEmpty_1 (g1) (rfl) ?_
  refine c_V hC kv_X8_19 dX8_isEmpty_4 (m_J0_isEmpty_aae02 hs9 g2) (g3) rfl rfl rfl rfl (by decide) (Nat.le_of_ble_eq_true rfl) ?_
  exact j_iret hC9 rfl (jb_nar) dX8_isEmpty_7 ⟨rfl, rfl⟩
set_option maxHeartbeats 4000000 in
set_option maxRecDepth 100000 in
theorem m_X8_signAt {G : jG} {M : jM} {a i : Nat} {t : List Nat} (hs : (gL G).stackTraces = false) (h : txtR M.1 a t) (hi : i < t.length) : CM G M jX8_signAt 0 0 4 [.ref a, .int (nI i)] (some (.int (nI (t.getD i 0)))) (M) := by
  refine jMet_of [some (.ref (a)), some (.int (nI (i)))] (by decide) rfl (Nat.le_of_ble_eq_true rfl) (rfl) hs ?_
  intro C hC9 hG
  have hC := hC9.z
  have hs9 := jOK0_tr hC
  obtain ⟨s, g1, g2⟩ := id h
  obtain ⟨fs, g3⟩ := g2.obj
  have g5 := g2.2
  have g4 := g5.1
  have h7 := chr_le g5 (i := i)
  refine j_iload_n hC dX8_signAt_0 rfl ?_
  refine n_if_lt (tgt := 26) hC dX8_signAt_1 (by decide) (by omega) (fun c1 => ?_) (fun c1 => ?_)
  · exact (show False by omega).elim
  · refine j_iload_n hC dX8_signAt_4 rfl ?_
    refine j_aload_n hC dX8_signAt_5 rfl (jrf_ref _) ?_
    refine j_get (v := .ref (s)) hC kf_X8_7 dX8_signAt_6 (g1) (rfl) ?_
    refine c_V hC kv_X8_13 dX8_signAt_9 (m_J0_length_8abf5 hs9 g2) (g3) rfl rfl rfl rfl (by decide) (Nat.le_of_ble_eq_true rfl) ?_
    refine n_icmp_ge (tgt := 26) hC dX8_signAt_12 (by decide) (by omega) (by omega) (fun c2 => ?_) (fun c2 => ?_)
    · exact (show False by omega).elim
    · refine j_aload_n hC dX8_signAt_15 rfl (jrf_ref _) ?_
      refine j_get (v := .ref (s)) hC kf_X8_7 dX8_signAt_16 (g1) (rfl) ?_
      refine j_iload_n hC dX8_signAt_19 rfl ?_
      refine c_V hC kv_X8_23 dX8_signAt_20 (m_J0_charAt_5068e hs9 g2 (by omega)) (g3) rfl rfl rfl rfl (by decide) (Nat.le_of_ble_eq_true rfl) ?_
      refine j_goto (tgt := 27) hC dX8_signAt_23 (by decide) ?_
      exact j_iret hC9 rfl (nar_chr _ (by omega)) dX8_signAt_27 ⟨rfl, rfl⟩
set_option maxHeartbeats 4000000 in
set_option maxRecDepth 100000 in
theorem m_X8_capital {G : jG} {M : jM} {c : Nat} (hs : (gL G).stackTraces = false) (hc : c ≤ 126) : CM G M jX8_capital 0 0 0 [.int (nI c)] (some (.int (nI (cap c)))) (M) := by
  refine jMet_of [some (.int (nI (c)))] (by decide) rfl (Nat.le_of_ble_eq_true rfl) (rfl) hs ?_
  intro C hC9 hG
  have hC := hC9.z
  have hs9 := jOK0_tr hC
  refine j_iload_n hC dX8_capital_0 rfl ?_
  refine j_bipush (v := nI 97) hC dX8_capital_1 (by decide) ?_
  refine n_icmp_lt (tgt := 23) hC dX8_capital_3 (by decide) (by omega) (by omega) (fun c1 => ?_) (fun c1 => ?_)
  · refine j_iload_n hC dX8_capital_23 rfl ?_
    exact j_iret hC9 rfl (nar_chr _ (by omega)) dX8_capital_24 ⟨(jv (by rw [cap]; first | (rw [if_pos (by omega), show c - 97 + 65 = c - 32 by omega]) | rw [if_neg (by omega)])), rfl⟩
  · refine j_iload_n hC dX8_capital_6 rfl ?_
    refine j_bipush (v := nI 122) hC dX8_capital_7 (by decide) ?_
    refine n_icmp_gt (tgt := 23) hC dX8_capital_9 (by decide) (by omega) (by omega) (fun c2 => ?_) (fun c2 => ?_)
    · refine j_iload_n hC dX8_capital_23 rfl ?_
      exact j_iret hC9 rfl (nar_chr _ (by omega)) dX8_capital_24 ⟨(jv (by rw [cap]; first | (rw [if_pos (by omega), show c - 97 + 65 = c - 32 by omega]) | rw [if_neg (by omega)])), rfl⟩
    · refine j_iload_n hC dX8_capital_12 rfl ?_
      refine j_bipush (v := nI 97) hC dX8_capital_13 (by decide) ?_
      refine n_isub hC dX8_capital_15 (by omega) ?_
      refine j_bipush (v := nI 65) hC dX8_capital_16 (by decide) ?_
      refine n_iadd hC dX8_capital_18 ?_
      refine j_i2c hC dX8_capital_19 ?_
      refine j_top (i2c_chr _ (by omega)) ?_
      refine j_goto (tgt := 24) hC dX8_capital_20 (by decide) ?_
      exact j_iret hC9 rfl (nar_chr _ (by omega)) dX8_capital_24 ⟨(jv (by rw [cap]; first | (rw [if_pos (by omega), show c - 97 + 65 = c - 32 by omega]) | rw [if_neg (by omega)])), rfl⟩
set_option maxHeartbeats 4000000 in
set_option maxRecDepth 100000 in
theorem m_X8_compareWith {G : jG} {M : jM} {a z : Nat} {t u : List Nat} (hs : (gL G).stackTraces = false) (h : txtR M.1 a t) (hz : txtR M.1 z u) : CM G M jX8_compareWith 0 0 4 [.ref a, .ref z] (some (.int (zI (cmpT t u)))) (M) := by
  refine jMet_of [some (.ref (a)), some (.ref (z)), none, none, none] (by decide) rfl (Nat.le_of_ble_eq_true rfl) (rfl) hs ?_
  intro C hC9 hG
  have hC := hC9.z
  have hs9 := jOK0_tr hC
  obtain ⟨s, g1, g2⟩ := id h
  obtain ⟨fs, g3⟩ := g2.obj
  have g5 := g2.2
  have g4 := g5.1
  obtain ⟨r, k1, k2⟩ := id hz
  obtain ⟨gs, k3⟩ := k2.obj
  have k5 := k2.2
  have k4 := k5.1
  refine j_aload_n hC dX8_compareWith_0 rfl (jrf_ref _) ?_
  refine j_get (v := .ref (s)) hC kf_X8_7 dX8_compareWith_1 (g1) (rfl) ?_
  refine c_V hC kv_X8_13 dX8_compareWith_4 (m_J0_length_8abf5 hs9 g2) (g3) rfl rfl rfl rfl (by decide) (Nat.le_of_ble_eq_true rfl) ?_
  refine j_aload_n hC dX8_compareWith_7 rfl (jrf_ref _) ?_
  refine j_get (v := .ref (r)) hC kf_X8_7 dX8_compareWith_8 (k1) (rfl) ?_
  refine c_V hC kv_X8_13 dX8_compareWith_11 (m_J0_length_8abf5 hs9 k2) (k3) rfl rfl rfl rfl (by decide) (Nat.le_of_ble_eq_true rfl) ?_
  refine c_min (a := (t).length) (b := (u).length) hC ks_X8_32 dX8_compareWith_14 (by omega) (by omega) (by decide) (Nat.le_of_ble_eq_true rfl) ?_
  have hmn : min t.length u.length ≤ t.length ∧ min t.length u.length ≤ u.length ∧ (min t.length u.length = t.length ∨ min t.length u.length = u.length) := by omega
  refine j_istore_n2 hC dX8_compareWith_17 (by decide) rfl ?_
  refine j_iconst (v := nI 0) hC dX8_compareWith_18 (by decide) ?_
  refine j_istore_n3 hC dX8_compareWith_19 (by decide) rfl ?_
  suffices K : ∀ (n9 : Nat) (i : Nat), min t.length u.length - i < n9 → (i ≤ min t.length u.length) → (cmpT (t.drop i) (u.drop i) = cmpT t u) → J C (M) 0 0 20 [some (.ref (a)), some (.ref (z)), some (.int (nI (min t.length u.length))), some (.int (nI (i))), none] [] from j_M (rfl) (K _ (0) (Nat.lt_succ_self _) (Nat.zero_le _) (rfl))
  intro n9
  induction n9 with
  | zero => intro i hm; omega
  | succ n9 ih =>
    intro i hm hi he
    refine j_iload_n hC dX8_compareWith_20 rfl ?_
    refine j_iload_n hC dX8_compareWith_21 rfl ?_
    refine n_icmp_ge (tgt := 64) hC dX8_compareWith_22 (by decide) (by omega) (by omega) (fun c1 => ?_) (fun c1 => ?_)
    · refine j_aload_n hC dX8_compareWith_64 rfl (jrf_ref _) ?_
      refine j_get (v := .ref (s)) hC kf_X8_7 dX8_compareWith_65 (g1) (rfl) ?_
      refine c_V hC kv_X8_13 dX8_compareWith_68 (m_J0_length_8abf5 hs9 g2) (g3) rfl rfl rfl rfl (by decide) (Nat.le_of_ble_eq_true rfl) ?_
      refine j_aload_n hC dX8_compareWith_71 rfl (jrf_ref _) ?_
      refine j_get (v := .ref (r)) hC kf_X8_7 dX8_compareWith_72 (k1) (rfl) ?_
      refine c_V hC kv_X8_13 dX8_compareWith_75 (m_J0_length_8abf5 hs9 k2) (k3) rfl rfl rfl rfl (by decide) (Nat.le_of_ble_eq_true rfl) ?_
      refine z_isub (a := (((t).length : Nat) : Int)) (b := (((u).length : Nat) : Int)) hC dX8_compareWith_78 ?_
      exact j_iret hC9 rfl (rfl) dX8_compareWith_79 ⟨(jv (by rw [← he, cmp_end (k := i) (by omega) (by omega) (by omega)])), rfl⟩
    · have h7 := chr_le g5 (i := i)
      have h8 := chr_le k5 (i := i)
      have h9 := cap_le h7
      have h10 := cap_le h8
      refine j_aload_n hC dX8_compareWith_25 rfl (jrf_ref _) ?_
      refine j_get (v := .ref (s)) hC kf_X8_7 dX8_compareWith_26 (g1) (rfl) ?_
      refine j_iload_n hC dX8_compareWith_29 rfl ?_
      refine c_V hC kv_X8_23 dX8_compareWith_30 (m_J0_charAt_5068e hs9 g2 (by omega)) (g3) rfl rfl rfl rfl (by decide) (Nat.le_of_ble_eq_true rfl) ?_
      refine c_S hC ks_X8_38 rfl dX8_compareWith_33 (m_X8_capital hs9 (by omega)) rfl rfl (by decide) (Nat.le_of_ble_eq_true rfl) ?_
      refine j_aload_n hC dX8_compareWith_36 rfl (jrf_ref _) ?_
      refine j_get (v := .ref (r)) hC kf_X8_7 dX8_compareWith_37 (k1) (rfl) ?_
      refine j_iload_n hC dX8_compareWith_40 rfl ?_
      refine c_V hC kv_X8_23 dX8_compareWith_41 (m_J0_charAt_5068e hs9 k2 (by omega)) (k3) rfl rfl rfl rfl (by decide) (Nat.le_of_ble_eq_true rfl) ?_
      refine c_S hC ks_X8_38 rfl dX8_compareWith_44 (m_X8_capital hs9 (by omega)) rfl rfl (by decide) (Nat.le_of_ble_eq_true rfl) ?_
      refine z_isub (a := ((cap ((t).getD (i) 0) : Nat) : Int)) (b := ((cap ((u).getD (i) 0) : Nat) : Int)) hC dX8_compareWith_47 ?_
      refine j_istore_4 hC dX8_compareWith_48 (by decide) rfl ?_
      refine j_iload hC dX8_compareWith_50 rfl ?_
      refine z_if_eq (a := ((((cap ((t).getD (i) 0) : Nat) : Int) - ((cap ((u).getD (i) 0) : Nat) : Int)))) (tgt := 58) hC dX8_compareWith_52 (by decide) (by unfold zB; omega) (fun c2 => ?_) (fun c2 => ?_)
      · refine j_iinc_3 (v := nI (i + 1)) hC dX8_compareWith_58 (nI_add _ _) (by decide) rfl ?_
        refine j_goto (tgt := 20) hC dX8_compareWith_61 (by decide) ?_
        exact j_M (rfl) (j_L (jle_s (jle_s (jle_s (jle_s (jle_n (jle_0)))))) (ih (i + 1) (by omega) (by omega) (by rw [← he, cmp_drop (k := i) (by omega) (by omega), if_pos (by omega)])))
      · refine j_iload hC dX8_compareWith_55 rfl ?_
        exact j_iret hC9 rfl (rfl) dX8_compareWith_57 ⟨(jv (by rw [← he, cmp_drop (by omega) (by omega)]; exact congrArg zI (if_neg (by omega)).symm)), rfl⟩
theorem cmp_sameL : ∀ {t u : List Nat}, t.length = u.length → (cmpT t u = 0 ↔ sameT t u = true)
  | [], [], _ => by decide
  | [], _ :: _, h => by simp at h
  | _ :: _, [], h => by simp at h
  | x :: t, z :: u, h => by
    have ih := cmp_sameL (t := t) (u := u) (by simpa using h)
    rw [sameT, decide_eq_true_eq] at ih ⊢
    simp only [cmpT, List.map_cons, List.cons.injEq]
    by_cases e : cap x = cap z
    · rw [if_pos e, ih]
      exact ⟨fun h => ⟨e, h⟩, fun h => h.2⟩
    · rw [if_neg e]
      exact ⟨fun h => absurd h (by omega), fun h => absurd h.1 e⟩
theorem same_len {t u : List Nat} (h : sameT t u = true) : t.length = u.length := by
  have h1 := of_decide_eq_true h
  have h2 := congrArg List.length h1
  rwa [List.length_map, List.length_map] at h2
theorem cmp_b : ∀ {t u : List Nat} {n : Nat}, t.length ≤ n → u.length ≤ n → (∀ c ∈ t, c ≤ 126) → (∀ c ∈ u, c ≤ 126) → -(n : Int) - 126 ≤ cmpT t u ∧ cmpT t u ≤ n + 126
  | [], u, n, h1, h2, _, _ => by simp only [cmpT]; omega
  | x :: t, [], n, h1, h2, _, _ => by simp only [cmpT, List.length_cons] at *; omega
  | x :: t, z :: u, n, h1, h2, h3, h4 => by
    simp only [cmpT, List.length_cons] at *
    have hx := cap_le (h3 x List.mem_cons_self)
    have hz := cap_le (h4 z List.mem_cons_self)
    split
    · exact cmp_b (by omega) (by omega) (fun c hc => h3 c (List.mem_cons_of_mem _ hc)) (fun c hc => h4 c (List.mem_cons_of_mem _ hc))
    · omega
set_option maxHeartbeats 4000000 in
set_option maxRecDepth 100000 in
theorem m_X8_isSameAs {G : jG} {M : jM} {a z : Nat} {t u : List Nat} (hs : (gL G).stackTraces = false) (h : txtR M.1 a t) (hz : txtR M.1 z u) : CM G M jX8_isSameAs 0 0 5 [.ref a, .ref z] (some (.int (jb (sameT t u = true)))) (M) := by
  refine jMet_of [some (.ref (a)), some (.ref (z))] (by decide) rfl (Nat.le_of_ble_eq_true rfl) (rfl) hs ?_
  intro C hC9 hG
  have hC := hC9.z
  have hs9 := jOK0_tr hC
  obtain ⟨s, g1, g2⟩ := id h
  obtain ⟨fs, g3⟩ := g2.obj
  have g5 := g2.2
  have g4 := g5.1
  obtain ⟨r, k1, k2⟩ := id hz
  obtain ⟨gs, k3⟩ := k2.obj
  have k5 := k2.2
  have k4 := k5.1
  have hcb := cmp_b (n := 500) g4 k4 g5.2 k5.2
  refine j_aload_n hC dX8_isSameAs_0 rfl (jrf_ref _) ?_
  refine c_V hC kv_X8_27 dX8_isSameAs_1 (m_X8_length hs9 h) (g1) rfl rfl rfl rfl (by decide) (Nat.le_of_ble_eq_true rfl) ?_
  refine j_aload_n hC dX8_isSameAs_4 rfl (jrf_ref _) ?_
  refine c_V hC kv_X8_27 dX8_isSameAs_5 (m_X8_length hs9 hz) (k1) rfl rfl rfl rfl (by decide) (Nat.le_of_ble_eq_true rfl) ?_
  refine n_icmp_ne (tgt := 23) hC dX8_isSameAs_8 (by decide) (by omega) (by omega) (fun c1 => ?_) (fun c1 => ?_)
  · refine j_iconst (v := nI 0) hC dX8_isSameAs_23 (by decide) ?_
    exact j_iret hC9 rfl (rfl) dX8_isSameAs_24 ⟨(jv (jb_f0 (fun e => by have e2 := same_len e; have e3 := (cmp_sameL e2).mpr e; omega))), rfl⟩
  · refine j_aload_n hC dX8_isSameAs_11 rfl (jrf_ref _) ?_
    refine j_aload_n hC dX8_isSameAs_12 rfl (jrf_ref _) ?_
    refine c_V hC kv_X8_28 dX8_isSameAs_13 (m_X8_compareWith hs9 h hz) (g1) rfl rfl rfl rfl (by decide) (Nat.le_of_ble_eq_true rfl) ?_
    refine z_if_ne (a := ((cmpT t u))) (tgt := 23) hC dX8_isSameAs_16 (by decide) (by unfold zB; omega) (fun c2 => ?_) (fun c2 => ?_)
    · refine j_iconst (v := nI 0) hC dX8_isSameAs_23 (by decide) ?_
      exact j_iret hC9 rfl (rfl) dX8_isSameAs_24 ⟨(jv (jb_f0 (fun e => by have e2 := same_len e; have e3 := (cmp_sameL e2).mpr e; omega))), rfl⟩
    · refine j_iconst (v := nI 1) hC dX8_isSameAs_19 (by decide) ?_
      refine j_goto (tgt := 24) hC dX8_isSameAs_20 (by decide) ?_
      exact j_iret hC9 rfl (rfl) dX8_isSameAs_24 ⟨(jv (jb_t1 ((cmp_sameL (by omega)).mp (by omega)))), rfl⟩
