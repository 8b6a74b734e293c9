theorem kq_J8_200 : Cond.constant RJ8 200 (2147483639 : Int32) ∈ jWs := jWs_of 570 (by decide +kernel) rfl
theorem kq_J5_39 : Cond.constant RJ5 39 (2147483647 : Int32) ∈ jWs := jWs_of 574 (by decide +kernel) rfl
/-! ===== the buffer ===== -/
def bufR (H : jH) (b v cap : Nat) (t : List Nat) : Prop := (∃ (mb : Nat) (u : Nat → Nat), H b = some (.inr (1, [.ref v, .int (nI 0), .int (nI mb), .int (nI t.length)])) ∧ H v = some (.inl (.byte, cap, fun j => .int (nI (u j)))) ∧ (∀ j, u j ≤ 126) ∧ (∀ j, j < t.length → u j = t.getD j 0) ∧ mb ≤ 1) ∧ t.length ≤ cap ∧ (cap = 16 ∨ cap = 34 ∨ cap = 70 ∨ cap = 142)
theorem smx_1 : (2147483639 : Int32) = nI 2147483639 := by decide
theorem smx_2 : (2147483647 : Int32) = nI 2147483647 := by decide
set_option maxHeartbeats 4000000 in
set_option maxRecDepth 100000 in
theorem m_J8_newLength_cabcc {G : jG} {M : jM} {o g p : Nat} (hs : (gL G).stackTraces = false) (ho : o ≤ 142) (hg : g ≤ 142) (hp : p ≤ 300) (hp0 : 0 < p) : CM G M jJ8_newLength_cabcc 0 0 1 [.int (nI o), .int (nI g), .int (nI p)] (some (.int (nI (o + max g p)))) (M) := by
  refine jMet_of [some (.int (nI (o))), some (.int (nI (g))), some (.int (nI (p))), none] (by decide) rfl (Nat.le_of_ble_eq_true rfl) (rfl) hs ?_
  intro C hC9 hG
  have hC := hC9.z
  have hs9 := jOK0_tr hC
  refine j_iload_n hC dJ8_newLength_cabcc_0 rfl ?_
  refine j_iload_n hC dJ8_newLength_cabcc_1 rfl ?_
  refine j_iload_n hC dJ8_newLength_cabcc_2 rfl ?_
  refine c_max (a := g) (b := p) hC ks_J8_194 dJ8_newLength_cabcc_3 (by omega) (by omega) (by decide) (Nat.le_of_ble_eq_true rfl) ?_
  refine n_iadd hC dJ8_newLength_cabcc_6 ?_
  refine j_istore_n3 hC dJ8_newLength_cabcc_7 (by decide) rfl ?_
  refine j_iconst (v := nI 0) hC dJ8_newLength_cabcc_8 (by decide) ?_
  refine j_iload_n hC dJ8_newLength_cabcc_9 rfl ?_
  refine n_icmp_ge (tgt := 21) hC dJ8_newLength_cabcc_10 (by decide) (by omega) (by omega) (fun c1 => ?_) (fun c1 => ?_)
  · exact (show False by omega).elim
  · refine j_iload_n hC dJ8_newLength_cabcc_13 rfl ?_
    refine j_ldcI (v := 2147483639) hC kq_J8_200 dJ8_newLength_cabcc_14 ?_
    refine j_top smx_1 ?_
    refine n_icmp_gt (tgt := 21) hC dJ8_newLength_cabcc_16 (by decide) (by omega) (by omega) (fun c2 => ?_) (fun c2 => ?_)
    · exact (show False by omega).elim
    · refine j_iload_n hC dJ8_newLength_cabcc_19 rfl ?_
      exact j_iret hC9 rfl (rfl) dJ8_newLength_cabcc_20 ⟨rfl, rfl⟩
set_option maxHeartbeats 4000000 in
set_option maxRecDepth 100000 in
theorem m_J1_canEncode_fc78d {G : jG} {M : jM} {c : Nat} (hs : (gL G).stackTraces = false) (hc : c ≤ 126) : CM G M jJ1_canEncode_fc78d 0 0 0 [.int (nI c)] (some (.int (nI 1))) (M) := by
  refine jMet_of [some (.int (nI (c)))] (by decide) rfl (Nat.le_of_ble_eq_true rfl) (rfl) hs ?_
  intro C hC9 hG
  have hC := hC9.z
  have hs9 := jOK0_tr hC
  refine j_iload_n hC dJ1_canEncode_fc78d_0 rfl ?_
  refine j_sipush (v := nI 255) hC dJ1_canEncode_fc78d_1 (by decide) ?_
  refine n_icmp_gt (tgt := 11) hC dJ1_canEncode_fc78d_4 (by decide) (by omega) (by omega) (fun c1 => ?_) (fun c1 => ?_)
  · exact (show False by omega).elim
  · refine j_iconst (v := nI 1) hC dJ1_canEncode_fc78d_7 (by decide) ?_
    refine j_goto (tgt := 12) hC dJ1_canEncode_fc78d_8 (by decide) ?_
    exact j_iret hC9 rfl (rfl) dJ1_canEncode_fc78d_12 ⟨rfl, rfl⟩
set_option maxHeartbeats 4000000 in
set_option maxRecDepth 100000 in
theorem m_J5_isLatin1_aae02 {G : jG} {M : jM} {b v n mb : Nat} (hs : (gL G).stackTraces = false) (h1 : M.1 b = some (.inr (1, [.ref v, .int (nI 0), .int (nI mb), .int (nI n)])))  : CM G M jJ5_isLatin1_aae02 0 0 0 [.ref b] (some (.int (nI 1))) (M) := by
  refine jMet_of [some (.ref (b))] (by decide) rfl (Nat.le_of_ble_eq_true rfl) (rfl) hs ?_
  intro C hC9 hG
  have hC := hC9.z
  have hs9 := jOK0_tr hC
  refine c_compact hC kg_J5_18 dJ5_isLatin1_aae02_0 ?_
  refine n_if_eq (tgt := 17) hC dJ5_isLatin1_aae02_3 (by decide) (by omega) (fun c1 => ?_) (fun c1 => ?_)
  · exact absurd c1 (by decide)
  · refine j_aload_n hC dJ5_isLatin1_aae02_6 rfl (jrf_ref _) ?_
    refine j_get (v := .int (nI (0))) hC kf_J5_22 dJ5_isLatin1_aae02_7 (h1) (rfl) ?_
    refine n_if_ne (tgt := 17) hC dJ5_isLatin1_aae02_10 (by decide) (by omega) (fun c2 => ?_) (fun c2 => ?_)
    · exact absurd c2 (by decide)
    · refine j_iconst (v := nI 1) hC dJ5_isLatin1_aae02_13 (by decide) ?_
      refine j_goto (tgt := 18) hC dJ5_isLatin1_aae02_14 (by decide) ?_
      exact j_iret hC9 rfl (rfl) dJ5_isLatin1_aae02_18 ⟨rfl, rfl⟩
set_option maxHeartbeats 4000000 in
set_option maxRecDepth 100000 in
theorem m_J5_length_8abf5 {G : jG} {M : jM} {b v n mb : Nat} (hs : (gL G).stackTraces = false) (h1 : M.1 b = some (.inr (1, [.ref v, .int (nI 0), .int (nI mb), .int (nI n)])))  : CM G M jJ5_length_8abf5 0 0 0 [.ref b] (some (.int (nI n))) (M) := by
  refine jMet_of [some (.ref (b))] (by decide) rfl (Nat.le_of_ble_eq_true rfl) (rfl) hs ?_
  intro C hC9 hG
  have hC := hC9.z
  have hs9 := jOK0_tr hC
  refine j_aload_n hC dJ5_length_8abf5_0 rfl (jrf_ref _) ?_
  refine j_get (v := .int (nI (n))) hC kf_J5_79 dJ5_length_8abf5_1 (h1) (rfl) ?_
  exact j_iret hC9 rfl (rfl) dJ5_length_8abf5_4 ⟨rfl, rfl⟩
set_option maxHeartbeats 4000000 in
set_option maxRecDepth 100000 in
theorem m_J5_getValue_6d5f1 {G : jG} {M : jM} {b v n mb : Nat} (hs : (gL G).stackTraces = false) (h1 : M.1 b = some (.inr (1, [.ref v, .int (nI 0), .int (nI mb), .int (nI n)])))  : CM G M jJ5_getValue_6d5f1 0 0 0 [.ref b] (some (.ref v)) (M) := by
  refine jMet_of [some (.ref (b))] (by decide) rfl (Nat.le_of_ble_eq_true rfl) (rfl) hs ?_
  intro C hC9 hG
  have hC := hC9.z
  have hs9 := jOK0_tr hC
  refine j_aload_n hC dJ5_getValue_6d5f1_0 rfl (jrf_ref _) ?_
  refine j_get (v := .ref (v)) hC kf_J5_15 dJ5_getValue_6d5f1_1 (h1) (rfl) ?_
  exact j_aret hC9 rfl (by first | exact Or.inl ⟨_, rfl⟩ | exact Or.inr ⟨_, rfl⟩) dJ5_getValue_6d5f1_4 ⟨rfl, rfl⟩ (jrf_ref _)
theorem sl_0 {n : Nat} : nI n <<< (nI 0 &&& 31) = nI n := by
  rw [show nI 0 &&& 31 = 0 by decide]
  simp
theorem sr_0 {n : Nat} (h : n < 2 ^ 31) : nI n >>> (nI 0 &&& 31) = nI n := nI_sh0 h
set_option maxHeartbeats 4000000 in
set_option maxRecDepth 100000 in
theorem m_J5_newCapacity_0f7a4 {G : jG} {M : jM} {b v n mb cap m : Nat} {u : Nat → Nat} (hs : (gL G).stackTraces = false) (h1 : M.1 b = some (.inr (1, [.ref v, .int (nI 0), .int (nI mb), .int (nI n)]))) (h2 : M.1 v = some (.inl (.byte, cap, fun j => .int (nI (u j))))) (hm : m = cap + 1) (hcap : cap ≤ 140) : CM G M jJ5_newCapacity_0f7a4 0 0 2 [.ref b, .int (nI m)] (some (.int (nI (2 * cap + 2)))) (M) := by
  refine jMet_of [some (.ref (b)), some (.int (nI (m))), none, none, none, none] (by decide) rfl (Nat.le_of_ble_eq_true rfl) (rfl) hs ?_
  intro C hC9 hG
  have hC := hC9.z
  have hs9 := jOK0_tr hC
  refine j_aload_n hC dJ5_newCapacity_0f7a4_0 rfl (jrf_ref _) ?_
  refine j_get (v := .ref (v)) hC kf_J5_15 dJ5_newCapacity_0f7a4_1 (h1) (rfl) ?_
  refine c_alen hC dJ5_newCapacity_0f7a4_4 (h2) ?_
  refine j_istore_n2 hC dJ5_newCapacity_0f7a4_5 (by decide) rfl ?_
  refine j_iload_n hC dJ5_newCapacity_0f7a4_6 rfl ?_
  refine j_aload_n hC dJ5_newCapacity_0f7a4_7 rfl (jrf_ref _) ?_
  refine j_get (v := .int (nI (0))) hC kf_J5_22 dJ5_newCapacity_0f7a4_8 (h1) (rfl) ?_
  refine j_ishl hC dJ5_newCapacity_0f7a4_11 ?_
  refine j_top (sl_0) ?_
  refine j_istore_n3 hC dJ5_newCapacity_0f7a4_12 (by decide) rfl ?_
  refine j_iload_n hC dJ5_newCapacity_0f7a4_13 rfl ?_
  refine j_iload_n hC dJ5_newCapacity_0f7a4_14 rfl ?_
  refine n_isub hC dJ5_newCapacity_0f7a4_15 (by omega) ?_
  refine j_istore_4 hC dJ5_newCapacity_0f7a4_16 (by decide) rfl ?_
  refine j_iload_n hC dJ5_newCapacity_0f7a4_18 rfl ?_
  refine j_iload hC dJ5_newCapacity_0f7a4_19 rfl ?_
  refine j_iload_n hC dJ5_newCapacity_0f7a4_21 rfl ?_
  refine j_iconst (v := nI 2) hC dJ5_newCapacity_0f7a4_22 (by decide) ?_
  refine j_aload_n hC dJ5_newCapacity_0f7a4_23 rfl (jrf_ref _) ?_
  refine j_get (v := .int (nI (0))) hC kf_J5_22 dJ5_newCapacity_0f7a4_24 (h1) (rfl) ?_
  refine j_ishl hC dJ5_newCapacity_0f7a4_27 ?_
  refine j_top (sl_0) ?_
  refine n_iadd hC dJ5_newCapacity_0f7a4_28 ?_
  refine c_S hC ks_J5_114 rfl dJ5_newCapacity_0f7a4_29 (m_J8_newLength_cabcc hs9 (by omega) (by omega) (by omega) (by omega)) rfl rfl (by decide) (Nat.le_of_ble_eq_true rfl) ?_
  refine j_istore_5 hC dJ5_newCapacity_0f7a4_32 (by decide) rfl ?_
  refine j_iload hC dJ5_newCapacity_0f7a4_34 rfl ?_
  refine j_ldcI (v := 2147483647) hC kq_J5_39 dJ5_newCapacity_0f7a4_36 ?_
  refine j_top smx_2 ?_
  refine n_icmp_ne (tgt := 51) hC dJ5_newCapacity_0f7a4_38 (by decide) (by omega) (by omega) (fun c1 => ?_) (fun c1 => ?_)
  · refine j_iload hC dJ5_newCapacity_0f7a4_51 rfl ?_
    refine j_aload_n hC dJ5_newCapacity_0f7a4_53 rfl (jrf_ref _) ?_
    refine j_get (v := .int (nI (0))) hC kf_J5_22 dJ5_newCapacity_0f7a4_54 (h1) (rfl) ?_
    refine j_ishr hC dJ5_newCapacity_0f7a4_57 ?_
    refine j_top ((sr_0 (by omega)).trans (by rw [show cap + max (m - cap) (cap + 2) = 2 * cap + 2 by omega])) ?_
    exact j_iret hC9 rfl (rfl) dJ5_newCapacity_0f7a4_58 ⟨rfl, rfl⟩
  · exact (show False by omega).elim
def grow (u : Nat → Nat) (n : Nat) : Nat → Nat := fun j => if j < n then u j else 0
theorem grow_cpy {u : Nat → Nat} {n : Nat} {g : Nat → Value} (hg : ∀ j, ¬ j < n → g j = .int 0) : va_cpy (fun j => .int (nI (u j))) g 0 0 n = fun j => .int (nI (grow u n j)) := by
  funext j
  unfold va_cpy grow
  by_cases h : j < n
  · rw [if_pos (by omega), if_pos h, Nat.sub_zero, Nat.zero_add]
  · rw [if_neg (by omega), if_neg h]; exact hg j h
theorem grow_b {u : Nat → Nat} {n : Nat} (hu : ∀ j, u j ≤ 126) : ∀ j, grow u n j ≤ 126 := fun j => by
  unfold grow
  split
  · exact hu j
  · omega
theorem grow_at {u : Nat → Nat} {n j : Nat} (h : j < n) : grow u n j = u j := if_pos h
set_option maxHeartbeats 4000000 in
set_option maxRecDepth 100000 in
theorem m_J7_copyOf_9075b {G : jG} {M : jM} {v cap m : Nat} {u : Nat → Nat} (hs : (gL G).stackTraces = false) (h2 : M.1 v = some (.inl (.byte, cap, fun j => .int (nI (u j))))) (hu : ∀ j, u j ≤ 126) (hm : cap < m) (hm2 : m ≤ 300) (hB : gB G ≤ v) : JMet G jJ7_copyOf_9075b [.ref v, .int (nI m)] (M) 1 m 1 (fun w M' => w = some (.ref M.2) ∧ M'.1 M.2 = some (.inl (.byte, m, fun j => .int (nI (grow u cap j)))) ∧ (∀ a o, M.1 a = some o → M'.1 a = some o) ∧ M'.2 = M.2 + 1) jNo := by
  refine jMet_of [some (.ref (v)), some (.int (nI (m))), none] (by decide) rfl (Nat.le_of_ble_eq_true rfl) (rfl) hs ?_
  intro C hC9 hG
  have hC := hC9.z
  have hs9 := jOK0_tr hC
  refine j_lt (fun hlt => ?_)
  have hBg : jB C = gB G := by rw [jB, hG]
  subst hG
  have hv2 := hlt _ _ h2
  refine j_iload_n hC dJ7_copyOf_9075b_0 rfl ?_
  refine j_aload_n hC dJ7_copyOf_9075b_1 rfl (jrf_ref _) ?_
  refine c_alen hC dJ7_copyOf_9075b_2 (h2) ?_
  refine n_icmp_ne (tgt := 14) hC dJ7_copyOf_9075b_3 (by decide) (by omega) (by omega) (fun c1 => ?_) (fun c1 => ?_)
  · refine j_iload_n hC dJ7_copyOf_9075b_14 rfl ?_
    refine j_less2 (0 + m) (Nat.zero_add m) ?_
    refine c_newa_byte (kc := 0) (ks := 0) (N := m) hC dJ7_copyOf_9075b_15 (by omega) ?_
    refine j_astore_n2 hC dJ7_copyOf_9075b_17 (jrf_ref _) (by decide) rfl ?_
    refine j_aload_n hC dJ7_copyOf_9075b_18 rfl (jrf_ref _) ?_
    refine j_iconst (v := nI 0) hC dJ7_copyOf_9075b_19 (by decide) ?_
    refine j_aload_n hC dJ7_copyOf_9075b_20 rfl (jrf_ref _) ?_
    refine j_iconst (v := nI 0) hC dJ7_copyOf_9075b_21 (by decide) ?_
    refine j_aload_n hC dJ7_copyOf_9075b_22 rfl (jrf_ref _) ?_
    refine c_alen hC dJ7_copyOf_9075b_23 ((jnew_ne (by show (v) ≠ M.2; omega)).trans (h2)) ?_
    refine j_iload_n hC dJ7_copyOf_9075b_24 rfl ?_
    refine c_min (a := cap) (b := m) hC ks_J7_304 dJ7_copyOf_9075b_25 (by omega) (by omega) (by decide) (Nat.le_of_ble_eq_true rfl) ?_
    refine j_top (show nI (min cap m) = nI cap by rw [show min cap m = cap by omega]) ?_
    refine j_copy hC ky_J7_150 ky_nat ky_sta ky_ini dJ7_copyOf_9075b_28 ((jnew_ne (by show (v) ≠ M.2; omega)).trans (h2)) (jnew_at) (by omega) (by omega) (by decide) (by decide) (nI_nn (by omega)) (by rw [nI_clamp (show 0 < 2 ^ 31 by decide), nI_clamp (show cap < 2 ^ 31 by omega)]; omega) (by rw [nI_clamp (show 0 < 2 ^ 31 by decide), nI_clamp (show cap < 2 ^ 31 by omega)]; omega) (fun j hj => Or.inl ⟨rfl, fit_byt _ (by have := hu ((nI 0).toNatClampNeg + j); omega)⟩) (by decide) (Nat.le_of_ble_eq_true rfl) ?_
    rw [nI_clamp (show 0 < 2 ^ 31 by decide), nI_clamp (show cap < 2 ^ 31 by omega), grow_cpy (fun j _ => rfl)]
    refine j_aload_n hC dJ7_copyOf_9075b_31 rfl (jrf_ref _) ?_
    exact j_aret hC9 rfl (by first | exact Or.inl ⟨_, rfl⟩ | exact Or.inr ⟨_, rfl⟩) dJ7_copyOf_9075b_32 (⟨rfl, jput_at, fun a9 o9 ha9 => by
  have hl9 := hlt _ _ ha9
  exact (jput_ne (by show (a9) ≠ (M.2); omega)).trans ((jnew_ne (by show (a9) ≠ M.2; omega)).trans (ha9)), rfl⟩) (jrf_ref _)
  · exact (show False by omega).elim
set_option maxHeartbeats 4000000 in
set_option maxRecDepth 100000 in
theorem m_J5_ensure0 {G : jG} {M : jM} {b v n mb cap m : Nat} {u : Nat → Nat} (hs : (gL G).stackTraces = false) (h1 : M.1 b = some (.inr (1, [.ref v, .int (nI 0), .int (nI mb), .int (nI n)]))) (h2 : M.1 v = some (.inl (.byte, cap, fun j => .int (nI (u j))))) (hm : m ≤ cap) (hcap : cap ≤ 142) : CM G M jJ5_ensureCapacityInternal_d00df 0 0 0 [.ref b, .int (nI m)] (none) (M) := by
  refine jMet_of [some (.ref (b)), some (.int (nI (m))), none] (by decide) rfl (Nat.le_of_ble_eq_true rfl) (rfl) hs ?_
  intro C hC9 hG
  have hC := hC9.z
  have hs9 := jOK0_tr hC
  refine j_aload_n hC dJ5_ensureCapacityInternal_d00df_0 rfl (jrf_ref _) ?_
  refine j_get (v := .ref (v)) hC kf_J5_15 dJ5_ensureCapacityInternal_d00df_1 (h1) (rfl) ?_
  refine c_alen hC dJ5_ensureCapacityInternal_d00df_4 (h2) ?_
  refine j_aload_n hC dJ5_ensureCapacityInternal_d00df_5 rfl (jrf_ref _) ?_
  refine j_get (v := .int (nI (0))) hC kf_J5_22 dJ5_ensureCapacityInternal_d00df_6 (h1) (rfl) ?_
  refine j_ishr hC dJ5_ensureCapacityInternal_d00df_9 ?_
  refine j_top (sr_0 (by omega)) ?_
  refine j_istore_n2 hC dJ5_ensureCapacityInternal_d00df_10 (by decide) rfl ?_
  refine j_iload_n hC dJ5_ensureCapacityInternal_d00df_11 rfl ?_
  refine j_iload_n hC dJ5_ensureCapacityInternal_d00df_12 rfl ?_
  refine z_isub (a := ((m : Nat) : Int)) (b := ((cap : Nat) : Int)) hC dJ5_ensureCapacityInternal_d00df_13 ?_
  refine z_if_le (a := ((((m : Nat) : Int) - ((cap : Nat) : Int)))) (tgt := 38) hC dJ5_ensureCapacityInternal_d00df_14 (by decide) (by unfold zB; omega) (fun c1 => ?_) (fun c1 => ?_)
  · exact j_vret hC9 rfl dJ5_ensureCapacityInternal_d00df_38 ⟨rfl, rfl⟩
  · exact (show False by omega).elim
set_option maxHeartbeats 4000000 in
set_option maxRecDepth 100000 in
theorem m_J5_ensure1 {G : jG} {M : jM} {b v n mb cap m : Nat} {u : Nat → Nat} (hs : (gL G).stackTraces = false) (h1 : M.1 b = some (.inr (1, [.ref v, .int (nI 0), .int (nI mb), .int (nI n)]))) (h2 : M.1 v = some (.inl (.byte, cap, fun j => .int (nI (u j))))) (hu : ∀ j, u j ≤ 126) (hm : m = cap + 1) (hcap : cap ≤ 140) (hBb : gB G ≤ b) (hBv : gB G ≤ v) : JMet G jJ5_ensureCapacityInternal_d00df [.ref b, .int (nI m)] (M) 1 (2 * cap + 2) 3 (fun w M' => w = none ∧ M'.1 b = some (.inr (1, [.ref M.2, .int (nI 0), .int (nI mb), .int (nI n)])) ∧ M'.1 M.2 = some (.inl (.byte, 2 * cap + 2, fun j => .int (nI (grow u cap j)))) ∧ kept M M' (fun a => a = b) ∧ M'.2 = M.2 + 1) jNo := by
  refine jMet_of [some (.ref (b)), some (.int (nI (m))), none] (by decide) rfl (Nat.le_of_ble_eq_true rfl) (rfl) hs ?_
  intro C hC9 hG
  have hC := hC9.z
  have hs9 := jOK0_tr hC
  refine j_lt (fun hlt => ?_)
  have hBg : jB C = gB G := by rw [jB, hG]
  subst hG
  have hv2 := hlt _ _ h2
  have hb2 := hlt _ _ h1
  refine j_aload_n hC dJ5_ensureCapacityInternal_d00df_0 rfl (jrf_ref _) ?_
  refine j_get (v := .ref (v)) hC kf_J5_15 dJ5_ensureCapacityInternal_d00df_1 (h1) (rfl) ?_
  refine c_alen hC dJ5_ensureCapacityInternal_d00df_4 (h2) ?_
  refine j_aload_n hC dJ5_ensureCapacityInternal_d00df_5 rfl (jrf_ref _) ?_
  refine j_get (v := .int (nI (0))) hC kf_J5_22 dJ5_ensureCapacityInternal_d00df_6 (h1) (rfl) ?_
  refine j_ishr hC dJ5_ensureCapacityInternal_d00df_9 ?_
  refine j_top (sr_0 (by omega)) ?_
  refine j_istore_n2 hC dJ5_ensureCapacityInternal_d00df_10 (by decide) rfl ?_
  refine j_iload_n hC dJ5_ensureCapacityInternal_d00df_11 rfl ?_
  refine j_iload_n hC dJ5_ensureCapacityInternal_d00df_12 rfl ?_
  refine z_isub (a := ((m : Nat) : Int)) (b := ((cap : Nat) : Int)) hC dJ5_ensureCapacityInternal_d00df_13 ?_
  refine z_if_le (a := ((((m : Nat) : Int) - ((cap : Nat) : Int)))) (tgt := 38) hC dJ5_ensureCapacityInternal_d00df_14 (by decide) (by unfold zB; omega) (fun c1 => ?_) (fun c1 => ?_)
  · exact (show False by omega).elim
  · refine j_aload_n hC dJ5_ensureCapacityInternal_d00df_17 rfl (jrf_ref _) ?_
    refine j_aload_n hC dJ5_ensureCapacityInternal_d00df_18 rfl (jrf_ref _) ?_
    refine j_get (v := .ref (v)) hC kf_J5_15 dJ5_ensureCapacityInternal_d00df_19 (h1) (rfl) ?_
    refine j_aload_n hC dJ5_ensureCapacityInternal_d00df_22 rfl (jrf_ref _) ?_
    refine j_iload_n hC dJ5_ensureCapacityInternal_d00df_23 rfl ?_
    refine c_PU (kc := 1) (ks := 2 * cap + 2) hC ku_J5_104 dJ5_ensureCapacityInternal_d00df_24 (m_J5_newCapacity_0f7a4 hs9 h1 h2 hm hcap) h1 rfl rfl (by decide) (Nat.le_of_ble_eq_true rfl) ?_
    intro v9 M1 h9
    obtain ⟨rfl, e9⟩ := h9
    refine j_M e9 ?_
    refine j_aload_n hC dJ5_ensureCapacityInternal_d00df_27 rfl (jrf_ref _) ?_
    refine j_get (v := .int (nI (0))) hC kf_J5_22 dJ5_ensureCapacityInternal_d00df_28 (h1) (rfl) ?_
    refine j_ishl hC dJ5_ensureCapacityInternal_d00df_31 ?_
    refine j_top (sl_0) ?_
    refine j_less (kc' := 0 + 1) (ks' := 0 + (2 * cap + 2)) (by omega) (by omega) ?_
    refine c_Ps (kc := 0) (ks := 0) hC ks_J5_108 rfl dJ5_ensureCapacityInternal_d00df_32 (m_J7_copyOf_9075b hs9 h2 hu (by omega) (by omega) hBv) rfl rfl (by decide) (Nat.le_of_ble_eq_true rfl) ?_
    intro v9 M1 h9
    obtain ⟨rfl, e1, e2, e3⟩ := h9
    refine c_put (fs' := [.ref (M.2), .int (nI 0), .int (nI mb), .int (nI n)]) hC kp_J5_15 dJ5_ensureCapacityInternal_d00df_35 ((e2 _ _ (h1))) (by omega) (rfl) (rfl) rfl ?_
    exact j_vret hC9 rfl dJ5_ensureCapacityInternal_d00df_38 (⟨rfl, jput_at, (jput_ne (show M.2 ≠ b by omega)).trans e1, fun a9 o9 ha9 hn9 => (jput_ne (show a9 ≠ b from hn9)).trans (e2 _ _ ha9), e3⟩)
theorem upd_xw {u : Nat → Nat} {n c : Nat} : upd (fun j => nI (u j)) n (nI c) = fun j => nI (xw u n c j) := by
  funext j
  by_cases e : j = n
  · subst e
    exact (if_pos rfl).trans (congrArg nI (if_pos rfl).symm)
  · exact (if_neg e).trans (congrArg nI (if_neg e).symm)
theorem xw_bd {u : Nat → Nat} {n c : Nat} (hu : ∀ j, u j ≤ 126) (hc : c ≤ 126) : ∀ j, xw u n c j ≤ 126 := fun j => by
  unfold xw
  split
  · exact hc
  · exact hu j
theorem bufR_app {H : jH} {b v cap mb c : Nat} {u : Nat → Nat} {t : List Nat} (h1 : H b = some (.inr (1, [.ref v, .int (nI 0), .int (nI mb), .int (nI (t.length + 1))]))) (h2 : H v = some (.inl (.byte, cap, fun j => .int (upd (fun j => nI (u j)) t.length (nI c) j)))) (hu : ∀ j, u j ≤ 126) (ht : ∀ j, j < t.length → u j = t.getD j 0) (hmb : mb ≤ 1) (hc : c ≤ 126) (hl : t.length + 1 ≤ cap) (hcap : cap = 16 ∨ cap = 34 ∨ cap = 70 ∨ cap = 142) : bufR H b v cap (t ++ [c]) := by
  have hl9 : (t ++ [c]).length = t.length + 1 := List.length_append
  refine ⟨⟨mb, xw u t.length c, by rw [hl9]; exact h1, by rw [h2, upd_xw], xw_bd hu hc, fun j hj => ?_, hmb⟩, by rw [hl9]; exact hl, hcap⟩
  rw [hl9] at hj
  unfold xw
  by_cases e : j = t.length
  · subst e
    rw [if_pos rfl, List.getD_eq_getElem?_getD, List.getElem?_append_right (Nat.le_refl _), Nat.sub_self]
    rfl
  · rw [if_neg e, List.getD_eq_getElem?_getD, List.getElem?_append_left (by omega), ← List.getD_eq_getElem?_getD]
    exact ht j (by omega)
set_option maxHeartbeats 4000000 in
set_option maxRecDepth 100000 in
theorem m_J5_append_3fe6f {G : jG} {M : jM} {b v cap c : Nat} {t : List Nat} (hs : (gL G).stackTraces = false) (h : bufR M.1 b v cap t) (hc : c ≤ 126) (hn : t.length < 120) (hbv : b ≠ v) (hBb : gB G ≤ b) (hBv : gB G ≤ v) : JMet G jJ5_append_3fe6f [.ref b, .int (nI c)] (M) 1 142 4 (fun w M' => w = some (.ref b) ∧ ∃ v' cap', bufR M'.1 b v' cap' (t ++ [c]) ∧ (v' = v ∨ v' = M.2) ∧ kept M M' (fun a => a = b ∨ a = v)) jNo := by
  refine jMet_of [some (.ref (b)), some (.int (nI (c)))] (by decide) rfl (Nat.le_of_ble_eq_true rfl) (rfl) hs ?_
  intro C hC9 hG
  have hC := hC9.z
  have hs9 := jOK0_tr hC
  refine j_lt (fun hlt => ?_)
  have hBg : jB C = gB G := by rw [jB, hG]
  subst hG
  obtain ⟨⟨mb, u, h1, h2, hu, ht, hmb⟩, hle, hcap⟩ := id h
  have hv2 := hlt _ _ h2
  have hb2 := hlt _ _ h1
  refine j_aload_n hC dJ5_append_3fe6f_0 rfl (jrf_ref _) ?_
  refine j_aload_n hC dJ5_append_3fe6f_1 rfl (jrf_ref _) ?_
  refine j_get (v := .int (nI (t.length))) hC kf_J5_79 dJ5_append_3fe6f_2 (h1) (rfl) ?_
  refine j_iconst (v := nI 1) hC dJ5_append_3fe6f_5 (by decide) ?_
  refine n_iadd hC dJ5_append_3fe6f_6 ?_
  by_cases hroom : t.length + 1 ≤ cap
  · refine c_PU (kc := 1) (ks := 142) hC ku_J5_100 dJ5_append_3fe6f_7 (m_J5_ensure0 hs9 h1 h2 hroom (by omega)) h1 rfl rfl (by decide) (Nat.le_of_ble_eq_true rfl) ?_
    intro v9 M1 h9
    obtain ⟨rfl, e9⟩ := h9
    refine j_M e9 ?_
    refine j_aload_n hC dJ5_append_3fe6f_10 rfl (jrf_ref _) ?_
    refine c_PU (kc := 1) (ks := 142) hC ku_J5_83 dJ5_append_3fe6f_11 (m_J5_isLatin1_aae02 hs9 h1) (h1) rfl rfl (by decide) (Nat.le_of_ble_eq_true rfl) ?_
    intro v9 M9 h9
    obtain ⟨rfl, e9⟩ := h9
    refine j_M e9 ?_
    refine n_if_eq (tgt := 45) hC dJ5_append_3fe6f_14 (by decide) (by omega) (fun c1 => ?_) (fun c1 => ?_)
    · exact absurd c1 (by decide)
    · refine j_iload_n hC dJ5_append_3fe6f_17 rfl ?_
      refine c_S hC ks_J5_191 rfl dJ5_append_3fe6f_18 (m_J1_canEncode_fc78d hs9 (by omega)) rfl rfl (by decide) (Nat.le_of_ble_eq_true rfl) ?_
      refine n_if_eq (tgt := 45) hC dJ5_append_3fe6f_21 (by decide) (by omega) (fun c2 => ?_) (fun c2 => ?_)
      · exact absurd c2 (by decide)
      · refine j_aload_n hC dJ5_append_3fe6f_24 rfl (jrf_ref _) ?_
        refine j_get (v := .ref (v)) hC kf_J5_15 dJ5_append_3fe6f_25 (h1) (rfl) ?_
        refine j_aload_n hC dJ5_append_3fe6f_28 rfl (jrf_ref _) ?_
        refine j_dup hC dJ5_append_3fe6f_29 rfl ?_
        refine j_get (v := .int (nI (t.length))) hC kf_J5_79 dJ5_append_3fe6f_30 (h1) (rfl) ?_
        refine j_dup_x1 hC dJ5_append_3fe6f_33 rfl rfl ?_
        refine j_iconst (v := nI 1) hC dJ5_append_3fe6f_34 (by decide) ?_
        refine n_iadd hC dJ5_append_3fe6f_35 ?_
        refine c_put (fs' := [.ref v, .int (nI 0), .int (nI mb), .int (nI ((t.length) + (1)))]) hC kp_J5_79 dJ5_append_3fe6f_36 (h1) (by omega) (rfl) (rfl) rfl ?_
        refine j_iload_n hC dJ5_append_3fe6f_39 rfl ?_
        refine j_i2b hC dJ5_append_3fe6f_40 ?_
        refine j_top (i2b_126 hc) ?_
        refine c_bast (i := t.length) (x := nI (c)) hC dJ5_append_3fe6f_41 ((jput_ne (by show (v) ≠ (b); omega)).trans (h2)) (by omega) (by omega) (by omega) (vpn_byt _ (by omega)) ?_
        refine j_goto (tgt := 75) hC dJ5_append_3fe6f_42 (by decide) ?_
        refine j_aload_n hC dJ5_append_3fe6f_75 rfl (jrf_ref _) ?_
        exact j_aret hC9 rfl (by first | exact Or.inl ⟨_, rfl⟩ | exact Or.inr ⟨_, rfl⟩) dJ5_append_3fe6f_76 (⟨rfl, v, cap, bufR_app ((jput_ne (by show (b) ≠ (v); omega)).trans (jput_at)) (jput_at) hu ht hmb hc hroom hcap, Or.inl rfl, fun a9 o9 ha9 hn9 => by
  have hl9 := hlt _ _ ha9
  have hn7 : a9 ≠ b := fun e => hn9 (Or.inl e)
  have hn8 : a9 ≠ v := fun e => hn9 (Or.inr e)
  exact (jput_ne (by show (a9) ≠ (v); omega)).trans ((jput_ne (by show (a9) ≠ (b); omega)).trans (ha9))⟩) (jrf_ref _)
  · refine j_less (kc' := 0 + 1) (ks' := 0 + (2 * cap + 2)) (by omega) (by omega) ?_
    refine c_PU (kc := 0) (ks := 0) hC ku_J5_100 dJ5_append_3fe6f_7 (m_J5_ensure1 hs9 h1 h2 hu (by omega) (by omega) (by omega) (by omega)) h1 rfl rfl (by decide) (Nat.le_of_ble_eq_true rfl) ?_
    intro v9 M1 h9
    obtain ⟨rfl, e1, e2, e3, e4⟩ := h9
    refine j_aload_n hC dJ5_append_3fe6f_10 rfl (jrf_ref _) ?_
    refine c_PU (kc := 0) (ks := 0) hC ku_J5_83 dJ5_append_3fe6f_11 (m_J5_isLatin1_aae02 hs9 e1) (e1) rfl rfl (by decide) (Nat.le_of_ble_eq_true rfl) ?_
    intro v9 M9 h9
    obtain ⟨rfl, e9⟩ := h9
    refine j_M e9 ?_
    refine n_if_eq (tgt := 45) hC dJ5_append_3fe6f_14 (by decide) (by omega) (fun c3 => ?_) (fun c3 => ?_)
    · exact absurd c3 (by decide)
    · refine j_iload_n hC dJ5_append_3fe6f_17 rfl ?_
      refine c_S hC ks_J5_191 rfl dJ5_append_3fe6f_18 (m_J1_canEncode_fc78d hs9 (by omega)) rfl rfl (by decide) (Nat.le_of_ble_eq_true rfl) ?_
      refine n_if_eq (tgt := 45) hC dJ5_append_3fe6f_21 (by decide) (by omega) (fun c4 => ?_) (fun c4 => ?_)
      · exact absurd c4 (by decide)
      · refine j_aload_n hC dJ5_append_3fe6f_24 rfl (jrf_ref _) ?_
        refine j_get (v := .ref (M.2)) hC kf_J5_15 dJ5_append_3fe6f_25 (e1) (rfl) ?_
        refine j_aload_n hC dJ5_append_3fe6f_28 rfl (jrf_ref _) ?_
        refine j_dup hC dJ5_append_3fe6f_29 rfl ?_
        refine j_get (v := .int (nI (t.length))) hC kf_J5_79 dJ5_append_3fe6f_30 (e1) (rfl) ?_
        refine j_dup_x1 hC dJ5_append_3fe6f_33 rfl rfl ?_
        refine j_iconst (v := nI 1) hC dJ5_append_3fe6f_34 (by decide) ?_
        refine n_iadd hC dJ5_append_3fe6f_35 ?_
        refine c_put (fs' := [.ref M.2, .int (nI 0), .int (nI mb), .int (nI ((t.length) + (1)))]) hC kp_J5_79 dJ5_append_3fe6f_36 (e1) (by omega) (rfl) (rfl) rfl ?_
        refine j_iload_n hC dJ5_append_3fe6f_39 rfl ?_
        refine j_i2b hC dJ5_append_3fe6f_40 ?_
        refine j_top (i2b_126 hc) ?_
        refine c_bast (i := t.length) (x := nI (c)) hC dJ5_append_3fe6f_41 ((jput_ne (by show (M.2) ≠ (b); omega)).trans (e2)) (by omega) (by omega) (by omega) (vpn_byt _ (by omega)) ?_
        refine j_goto (tgt := 75) hC dJ5_append_3fe6f_42 (by decide) ?_
        refine j_aload_n hC dJ5_append_3fe6f_75 rfl (jrf_ref _) ?_
        exact j_aret hC9 rfl (by first | exact Or.inl ⟨_, rfl⟩ | exact Or.inr ⟨_, rfl⟩) dJ5_append_3fe6f_76 (⟨rfl, M.2, 2 * cap + 2, bufR_app ((jput_ne (by show (b) ≠ (M.2); omega)).trans (jput_at)) (jput_at) (grow_b hu) (fun j hj => (grow_at (by omega)).trans (ht j hj)) hmb hc (by omega) (by omega), Or.inr rfl, fun a9 o9 ha9 hn9 => by
  have hl9 := hlt _ _ ha9
  have hn7 : a9 ≠ b := fun e => hn9 (Or.inl e)
  have hn8 : a9 ≠ v := fun e => hn9 (Or.inr e)
  exact (jput_ne (by show (a9) ≠ (M.2); omega)).trans ((jput_ne (by show (a9) ≠ (b); omega)).trans (e3 _ _ ha9 (fun e => hn9 (Or.inl e))))⟩) (jrf_ref _)
set_option maxHeartbeats 4000000 in
set_option maxRecDepth 100000 in
theorem m_J4_append_cf468 {G : jG} {M : jM} {b v cap c : Nat} {t : List Nat} (hs : (gL G).stackTraces = false) (h : bufR M.1 b v cap t) (hc : c ≤ 126) (hn : t.length < 120) (hbv : b ≠ v) (hBb : gB G ≤ b) (hBv : gB G ≤ v) : JMet G jJ4_append_cf468 [.ref b, .int (nI c)] (M) 1 142 5 (fun w M' => w = some (.ref b) ∧ ∃ v' cap', bufR M'.1 b v' cap' (t ++ [c]) ∧ (v' = v ∨ v' = M.2) ∧ kept M M' (fun a => a = b ∨ a = v)) jNo := by
  refine jMet_of [some (.ref (b)), some (.int (nI (c)))] (by decide) rfl (Nat.le_of_ble_eq_true rfl) (rfl) hs ?_
  intro C hC9 hG
  have hC := hC9.z
  have hs9 := jOK0_tr hC
  refine j_lt (fun hlt => ?_)
  have hBg : jB C = gB G := by rw [jB, hG]
  subst hG
  obtain ⟨⟨mb, u, h1, h2, hu, ht, hmb⟩, hle, hcap⟩ := id h
  have hv2 := hlt _ _ h2
  have hb2 := hlt _ _ h1
  refine j_aload_n hC dJ4_append_cf468_0 rfl (jrf_ref _) ?_
  refine j_iload_n hC dJ4_append_cf468_1 rfl ?_
  refine c_PSU (kc := 0) (ks := 0) hC ksu_J4_50 dJ4_append_cf468_2 (m_J5_append_3fe6f hs9 h hc hn hbv hBb hBv) h1 rfl rfl (by decide) (Nat.le_of_ble_eq_true rfl) ?_
  intro v9 M1 h9
  obtain ⟨rfl, h9⟩ := h9
  refine j_pop hC dJ4_append_cf468_5 rfl ?_
  refine j_aload_n hC dJ4_append_cf468_6 rfl (jrf_ref _) ?_
  exact j_aret hC9 rfl (by first | exact Or.inl ⟨_, rfl⟩ | exact Or.inr ⟨_, rfl⟩) dJ4_append_cf468_7 (⟨rfl, h9⟩) (jrf_ref _)
set_option maxHeartbeats 4000000 in
set_option maxRecDepth 100000 in
theorem m_J4_length_8abf5 {G : jG} {M : jM} {b v n mb : Nat} (hs : (gL G).stackTraces = false) (h1 : M.1 b = some (.inr (1, [.ref v, .int (nI 0), .int (nI mb), .int (nI n)])))  : CM G M jJ4_length_8abf5 0 0 1 [.ref b] (some (.int (nI n))) (M) := by
  refine jMet_of [some (.ref (b))] (by decide) rfl (Nat.le_of_ble_eq_true rfl) (rfl) hs ?_
  intro C hC9 hG
  have hC := hC9.z
  have hs9 := jOK0_tr hC
  refine j_aload_n hC dJ4_length_8abf5_0 rfl (jrf_ref _) ?_
  refine c_PSU (kc := 0) (ks := 0) hC ksu_J4_343 dJ4_length_8abf5_1 (m_J5_length_8abf5 hs9 h1) h1 rfl rfl (by decide) (Nat.le_of_ble_eq_true rfl) ?_
  intro v9 M1 h9
  obtain ⟨rfl, e9⟩ := h9
  refine j_M e9 ?_
  exact j_iret hC9 rfl (rfl) dJ4_length_8abf5_4 ⟨rfl, rfl⟩
