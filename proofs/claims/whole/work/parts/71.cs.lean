set_option maxHeartbeats 4000000 in
set_option maxRecDepth 100000 in
theorem m_J5_init_d00df {G : jG} {M : jM} {b : Nat} {v0 v1 v2 v3 : Value} (hs : (gL G).stackTraces = false) (h1 : M.1 b = some (.inr (1, [v0, v1, v2, v3]))) (hB : gB G ≤ b) : JMet G jJ5_init_d00df [.ref b, .int (nI 16)] (M) 1 16 1 (fun w M' => w = none ∧ M'.1 b = some (.inr (1, [.ref M.2, .int (nI 0), v2, v3])) ∧ M'.1 M.2 = some (.inl (.byte, 16, fun j => .int ((fun _ => (0 : Int32)) j))) ∧ kept M M' (fun a => a = b) ∧ M'.2 = M.2 + 1) jNo := by
  refine jMet_of [some (.ref (b)), some (.int (nI (16)))] (by decide) rfl (Nat.le_of_ble_eq_true rfl) (rfl) hs ?_
  intro C hC9 hG
  have hC := hC9.z
  have hs9 := jOK0_tr hC
  refine j_lt (fun hlt => ?_)
  have hBg : jB C = gB G := by rw [jB, hG]
  subst hG
  have hb2 := hlt _ _ h1
  refine j_aload_n hC dJ5_init_d00df_0 rfl (jrf_ref _) ?_
  refine j_obj hC ko_J5_3 ko_i ko_c dJ5_init_d00df_1 (by decide) (Nat.le_of_ble_eq_true rfl) ?_
  refine c_compact hC kg_J5_18 dJ5_init_d00df_4 ?_
  refine n_if_eq (tgt := 25) hC dJ5_init_d00df_7 (by decide) (by omega) (fun c1 => ?_) (fun c1 => ?_)
  · exact absurd c1 (by decide)
  · refine j_aload_n hC dJ5_init_d00df_10 rfl (jrf_ref _) ?_
    refine j_iload_n hC dJ5_init_d00df_11 rfl ?_
    refine c_newa_byte (kc := 0) (ks := 0) (N := 16) hC dJ5_init_d00df_12 (by decide) ?_
    refine c_put (fs' := [.ref (M.2), v1, v2, v3]) hC kp_J5_15 dJ5_init_d00df_14 ((jnew_ne (by show (b) ≠ M.2; omega)).trans (h1)) (by omega) (rfl) (rfl) rfl ?_
    refine j_aload_n hC dJ5_init_d00df_17 rfl (jrf_ref _) ?_
    refine j_iconst (v := nI 0) hC dJ5_init_d00df_18 (by decide) ?_
    refine c_put2 (fs' := [.ref (M.2), .int (nI (0)), v2, v3]) hC kp_J5_22 dJ5_init_d00df_19 (by omega) (rfl) (rfl) rfl ?_
    refine j_goto (tgt := 38) hC dJ5_init_d00df_22 (by decide) ?_
    exact j_vret hC9 rfl dJ5_init_d00df_38 (⟨rfl, jput_at, (jput_ne (by show (M.2) ≠ (b); omega)).trans (jnew_at), fun a9 o9 ha9 hn9 => by
  have hl9 := hlt _ _ ha9
  have hn7 : a9 ≠ b := hn9
  exact (jput_ne (by show (a9) ≠ (b); omega)).trans ((jnew_ne (by show (a9) ≠ M.2; omega)).trans (ha9)), rfl⟩)
set_option maxHeartbeats 4000000 in
set_option maxRecDepth 100000 in
theorem m_J4_init_da8c8 {G : jG} {M : jM} {b : Nat} (hs : (gL G).stackTraces = false) (h1 : M.1 b = some (.inr (1, [.null, .int 0, .int 0, .int 0]))) (hB : gB G ≤ b) : JMet G jJ4_init_da8c8 [.ref b] (M) 1 16 2 (fun w M' => w = none ∧ bufR M'.1 b M.2 16 [] ∧ kept M M' (fun a => a = b) ∧ M'.2 = M.2 + 1) jNo := by
  refine jMet_of [some (.ref (b))] (by decide) rfl (Nat.le_of_ble_eq_true rfl) (rfl) hs ?_
  intro C hC9 hG
  have hC := hC9.z
  have hs9 := jOK0_tr hC
  refine j_lt (fun hlt => ?_)
  have hBg : jB C = gB G := by rw [jB, hG]
  subst hG
  have hb2 := hlt _ _ h1
  refine j_aload_n hC dJ4_init_da8c8_0 rfl (jrf_ref _) ?_
  refine j_bipush (v := nI 16) hC dJ4_init_da8c8_1 (by decide) ?_
  refine c_Pi (kc := 0) (ks := 0) hC ki_J4_1 dJ4_init_da8c8_3 (m_J5_init_d00df hs9 h1 hB) rfl rfl (by decide) (Nat.le_of_ble_eq_true rfl) ?_
  intro v9 M1 h9
  obtain ⟨rfl, e1, e2, e3, e4⟩ := h9
  exact j_vret hC9 rfl dJ4_init_da8c8_6 (⟨rfl, ⟨⟨0, fun _ => 0, e1, e2, fun _ => Nat.zero_le _, fun j hj => absurd hj (Nat.not_lt_zero j), Nat.zero_le _⟩, Nat.zero_le _, Or.inl rfl⟩, e3, e4⟩)
set_option maxHeartbeats 4000000 in
set_option maxRecDepth 100000 in
theorem m_J5_setLength_d00df {G : jG} {M : jM} {b v cap : Nat} {t : List Nat} (hs : (gL G).stackTraces = false) (h : bufR M.1 b v cap t) (hbv : b ≠ v) (hBb : gB G ≤ b) (hn : t.length ≤ 142) : JMet G jJ5_setLength_d00df [.ref b, .int (nI 0)] (M) 0 0 4 (fun w M' => w = none ∧ bufR M'.1 b v cap [] ∧ kept M M' (fun a => a = b) ∧ M'.2 = M.2) jNo := by
  refine jMet_of [some (.ref (b)), some (.int (nI (0)))] (by decide) rfl (Nat.le_of_ble_eq_true rfl) (rfl) hs ?_
  intro C hC9 hG
  have hC := hC9.z
  have hs9 := jOK0_tr hC
  refine j_lt (fun hlt => ?_)
  have hBg : jB C = gB G := by rw [jB, hG]
  subst hG
  obtain ⟨⟨mb, u, h1, h2, hu, ht, hmb⟩, hle, hcap⟩ := id h
  have hv2 := hlt _ _ h2
  have hb2 := hlt _ _ h1
  refine j_iload_n hC dJ5_setLength_d00df_0 rfl ?_
  refine n_if_ge (tgt := 13) hC dJ5_setLength_d00df_1 (by decide) (by omega) (fun c1 => ?_) (fun c1 => ?_)
  · refine j_aload_n hC dJ5_setLength_d00df_13 rfl (jrf_ref _) ?_
    refine j_iload_n hC dJ5_setLength_d00df_14 rfl ?_
    refine c_PU (kc := 0) (ks := 0) hC ku_J5_100 dJ5_setLength_d00df_15 (m_J5_ensure0 hs9 h1 h2 (Nat.zero_le _) (by omega)) (h1) rfl rfl (by decide) (Nat.le_of_ble_eq_true rfl) ?_
    intro v9 M1 h9
    obtain ⟨rfl, e9⟩ := h9
    refine j_M e9 ?_
    refine j_aload_n hC dJ5_setLength_d00df_18 rfl (jrf_ref _) ?_
    refine j_get (v := .int (nI (t.length))) hC kf_J5_79 dJ5_setLength_d00df_19 (h1) (rfl) ?_
    refine j_iload_n hC dJ5_setLength_d00df_22 rfl ?_
    refine n_icmp_ge (tgt := 63) hC dJ5_setLength_d00df_23 (by decide) (by omega) (by omega) (fun c2 => ?_) (fun c2 => ?_)
    · refine j_aload_n hC dJ5_setLength_d00df_63 rfl (jrf_ref _) ?_
      refine j_get (v := .int (nI (t.length))) hC kf_J5_79 dJ5_setLength_d00df_64 (h1) (rfl) ?_
      refine j_iload_n hC dJ5_setLength_d00df_67 rfl ?_
      refine n_icmp_le (tgt := 76) hC dJ5_setLength_d00df_68 (by decide) (by omega) (by omega) (fun c3 => ?_) (fun c3 => ?_)
      · refine j_aload_n hC dJ5_setLength_d00df_76 rfl (jrf_ref _) ?_
        refine j_iload_n hC dJ5_setLength_d00df_77 rfl ?_
        refine c_put (fs' := [.ref v, .int (nI 0), .int (nI mb), .int (nI (0))]) hC kp_J5_79 dJ5_setLength_d00df_78 (h1) (by omega) (rfl) (rfl) rfl ?_
        exact j_vret hC9 rfl dJ5_setLength_d00df_81 (⟨rfl, ⟨⟨mb, u, jput_at, (jput_ne (show v ≠ b by omega)).trans h2, hu, fun j hj => absurd hj (Nat.not_lt_zero j), by omega⟩, Nat.zero_le _, hcap⟩, fun a9 o9 ha9 hn9 => (jput_ne (show a9 ≠ b from hn9)).trans ha9, rfl⟩)
      · refine j_aload_n hC dJ5_setLength_d00df_71 rfl (jrf_ref _) ?_
        refine j_iconst (v := nI 1) hC dJ5_setLength_d00df_72 (by decide) ?_
        refine c_put (fs' := [.ref v, .int (nI 0), .int (nI (1)), .int (nI t.length)]) hC kp_J5_73 dJ5_setLength_d00df_73 (h1) (by omega) (by decide) (by decide) rfl ?_
        refine j_aload_n hC dJ5_setLength_d00df_76 rfl (jrf_ref _) ?_
        refine j_iload_n hC dJ5_setLength_d00df_77 rfl ?_
        refine c_put2 (fs' := [.ref v, .int (nI 0), .int (nI (1)), .int (nI (0))]) hC kp_J5_79 dJ5_setLength_d00df_78 (by omega) (rfl) (rfl) rfl ?_
        exact j_vret hC9 rfl dJ5_setLength_d00df_81 (⟨rfl, ⟨⟨1, u, jput_at, (jput_ne (show v ≠ b by omega)).trans h2, hu, fun j hj => absurd hj (Nat.not_lt_zero j), by omega⟩, Nat.zero_le _, hcap⟩, fun a9 o9 ha9 hn9 => (jput_ne (show a9 ≠ b from hn9)).trans ha9, rfl⟩)
    · exact (show False by omega).elim
  · exact absurd c1 (by decide)
set_option maxHeartbeats 4000000 in
set_option maxRecDepth 100000 in
theorem m_J4_setLength_d00df {G : jG} {M : jM} {b v cap : Nat} {t : List Nat} (hs : (gL G).stackTraces = false) (h : bufR M.1 b v cap t) (hbv : b ≠ v) (hBb : gB G ≤ b) (hn : t.length ≤ 142) : JMet G jJ4_setLength_d00df [.ref b, .int (nI 0)] (M) 0 0 5 (fun w M' => w = none ∧ bufR M'.1 b v cap [] ∧ kept M M' (fun a => a = b) ∧ M'.2 = M.2) jNo := by
  refine jMet_of [some (.ref (b)), some (.int (nI (0)))] (by decide) rfl (Nat.le_of_ble_eq_true rfl) (rfl) hs ?_
  intro C hC9 hG
  have hC := hC9.z
  have hs9 := jOK0_tr hC
  refine j_lt (fun hlt => ?_)
  have hBg : jB C = gB G := by rw [jB, hG]
  subst hG
  obtain ⟨⟨mb, u, h1, h2, hu, ht, hmb⟩, hle, hcap⟩ := id h
  have hv2 := hlt _ _ h2
  have hb2 := hlt _ _ h1
  refine j_aload_n hC dJ4_setLength_d00df_0 rfl (jrf_ref _) ?_
  refine j_iload_n hC dJ4_setLength_d00df_1 rfl ?_
  refine c_PSU (kc := 0) (ks := 0) hC ksu_J4_333 dJ4_setLength_d00df_2 (m_J5_setLength_d00df hs9 h hbv hBb hn) h1 rfl rfl (by decide) (Nat.le_of_ble_eq_true rfl) ?_
  intro v9 M1 h9
  obtain rfl := h9.1
  exact j_vret hC9 rfl dJ4_setLength_d00df_5 (h9)
theorem tCh_of {u : Nat → Nat} {t : List Nat} (ht : ∀ j, j < t.length → u j = t.getD j 0) {j : Nat} (hj : j < t.length) : nI (u (0 + j)) = tCh t j := by
  rw [Nat.zero_add, ht j hj]
  rfl
theorem bufR.ok {H : jH} {b v cap : Nat} {t : List Nat} (h : bufR H b v cap t) : tOK t := by
  obtain ⟨⟨mb, u, h1, h2, hu, ht, hmb⟩, hle, hcap⟩ := h
  refine ⟨by omega, fun c hc => ?_⟩
  obtain ⟨j, hj, rfl⟩ := List.getElem_of_mem hc
  have e := ht j hj
  rw [List.getD_eq_getElem?_getD, List.getElem?_eq_getElem hj] at e
  rw [show t[j] = u j from e.symm]
  exact hu j
set_option maxHeartbeats 4000000 in
set_option maxRecDepth 100000 in
theorem m_J0_init_db425 {G : jG} {M : jM} {a b v cap : Nat} {t : List Nat} {v0 v1 v2 v3 : Value} (hs : (gL G).stackTraces = false) (h1s : M.1 a = some (.inr (0, [v0, v1, v2, v3]))) (h : bufR M.1 b v cap t) (hab : a ≠ b ∧ a ≠ v) (hBa : gB G ≤ a) (hBv : gB G ≤ v) : JMet G jJ0_init_db425 [.ref a, .ref b, .null] (M) 1 t.length 3 (fun w M' => w = none ∧ M'.1 a = some (.inr (0, [.ref M.2, .int (nI 0), v2, v3])) ∧ M'.1 M.2 = some (.inl (.byte, t.length, fun j => .int (tCh t j))) ∧ kept M M' (fun c => c = a) ∧ M'.2 = M.2 + 1) jNo := by
  refine jMet_of [some (.ref (a)), some (.ref (b)), some (.null), none, none] (by decide) rfl (Nat.le_of_ble_eq_true rfl) (rfl) hs ?_
  intro C hC9 hG
  have hC := hC9.z
  have hs9 := jOK0_tr hC
  refine j_lt (fun hlt => ?_)
  have hBg : jB C = gB G := by rw [jB, hG]
  subst hG
  obtain ⟨⟨mb, u, h1, h2, hu, ht, hmb⟩, hle, hcap⟩ := id h
  have hv2 := hlt _ _ h2
  have hb2 := hlt _ _ h1
  have ha2 := hlt _ _ h1s
  refine j_aload_n hC dJ0_init_db425_0 rfl (jrf_ref _) ?_
  refine j_obj hC ko_J0_1 ko_i ko_c dJ0_init_db425_1 (by decide) (Nat.le_of_ble_eq_true rfl) ?_
  refine j_aload_n hC dJ0_init_db425_4 rfl (jrf_ref _) ?_
  refine c_PU (kc := 1) (ks := t.length) hC ku_J0_552 dJ0_init_db425_5 (m_J5_getValue_6d5f1 hs9 h1) (h1) rfl rfl (by decide) (Nat.le_of_ble_eq_true rfl) ?_
  intro v9 M1 h9
  obtain ⟨rfl, e9⟩ := h9
  refine j_M e9 ?_
  refine j_astore_n3 hC dJ0_init_db425_8 (jrf_ref _) (by decide) rfl ?_
  refine j_aload_n hC dJ0_init_db425_9 rfl (jrf_ref _) ?_
  refine c_PU (kc := 1) (ks := t.length) hC ku_J0_549 dJ0_init_db425_10 (m_J4_length_8abf5 hs9 h1) (h1) rfl rfl (by decide) (Nat.le_of_ble_eq_true rfl) ?_
  intro v9 M1 h9
  obtain ⟨rfl, e9⟩ := h9
  refine j_M e9 ?_
  refine j_istore_4 hC dJ0_init_db425_13 (by decide) rfl ?_
  refine j_aload_n hC dJ0_init_db425_15 rfl (jrf_ref _) ?_
  refine c_PU (kc := 1) (ks := t.length) hC ku_J0_1047 dJ0_init_db425_16 (m_J5_isLatin1_aae02 hs9 h1) (h1) rfl rfl (by decide) (Nat.le_of_ble_eq_true rfl) ?_
  intro v9 M1 h9
  obtain ⟨rfl, e9⟩ := h9
  refine j_M e9 ?_
  refine n_if_eq (tgt := 41) hC dJ0_init_db425_19 (by decide) (by omega) (fun c1 => ?_) (fun c1 => ?_)
  · exact absurd c1 (by decide)
  · refine j_aload_n hC dJ0_init_db425_22 rfl (jrf_ref _) ?_
    refine j_iconst (v := nI 0) hC dJ0_init_db425_23 (by decide) ?_
    refine c_putF (fs' := [v0, .int (nI (0)), v2, v3]) hC kp_J0_15 rfl dJ0_init_db425_24 (h1s) (by omega) (rfl) (rfl) rfl ?_
    refine j_aload_n hC dJ0_init_db425_27 rfl (jrf_ref _) ?_
    refine j_aload_n hC dJ0_init_db425_28 rfl (jrf_ref _) ?_
    refine j_iconst (v := nI 0) hC dJ0_init_db425_29 (by decide) ?_
    refine j_iload hC dJ0_init_db425_30 rfl ?_
    refine j_top (show nI t.length = nI (0 + t.length) by rw [Nat.zero_add]) ?_
    refine j_less2 (0 + t.length) (Nat.zero_add _) ?_
    refine c_Ps (kc := 0) (ks := 0) hC ks_J0_54 rfl dJ0_init_db425_32 (m_J7_copyOfRange_39247 (i := 0) (k := t.length) (M := jput (M) (a) (.inr (0, [v0, .int (nI (0)), v2, v3]))) hs9 ((jput_ne (by show (v) ≠ (a); omega)).trans (h2)) hu (by omega) (by omega) hBv) rfl rfl (by decide) (Nat.le_of_ble_eq_true rfl) ?_
    intro v9 M1 h9
    obtain ⟨rfl, ⟨fr, e1, e0⟩, e2, e3⟩ := h9
    replace e1 : M1.1 M.2 = _ := e1
    replace e3 : M1.2 = M.2 + 1 := e3
    refine c_putF (fs' := [.ref (M.2), .int (nI (0)), v2, v3]) hC kp_J0_9 rfl dJ0_init_db425_35 ((e2 _ _ (jput_at))) (by omega) (rfl) (rfl) rfl ?_
    refine j_goto (tgt := 97) hC dJ0_init_db425_38 (by decide) ?_
    refine j_ext (a := M.2) (g := fun j => .int (tCh t j)) ((jput_ne (show M.2 ≠ a by omega)).trans e1) (by omega) (fun j hj => by rw [e0 j hj, tCh_of ht hj]) ?_
    exact j_vret hC9 rfl dJ0_init_db425_97 (⟨rfl, (jput_ne (show a ≠ M.2 by omega)).trans jput_at, jput_at, fun a9 o9 ha9 hn9 => by
  have hl9 := hlt _ _ ha9
  have hn7 : a9 ≠ a := hn9
  exact (jput_ne (show a9 ≠ M.2 by omega)).trans ((jput_ne (by show (a9) ≠ (a); omega)).trans ((e2 _ _ ((jput_ne (by show (a9) ≠ (a); omega)).trans (ha9))))), e3⟩)
set_option maxHeartbeats 4000000 in
set_option maxRecDepth 100000 in
theorem m_J0_init_81219 {G : jG} {M : jM} {a b v cap : Nat} {t : List Nat} {v0 v1 v2 v3 : Value} (hs : (gL G).stackTraces = false) (h1s : M.1 a = some (.inr (0, [v0, v1, v2, v3]))) (h : bufR M.1 b v cap t) (hab : a ≠ b ∧ a ≠ v) (hBa : gB G ≤ a) (hBv : gB G ≤ v) : JMet G jJ0_init_81219 [.ref a, .ref b] (M) 1 t.length 4 (fun w M' => w = none ∧ M'.1 a = some (.inr (0, [.ref M.2, .int (nI 0), v2, v3])) ∧ M'.1 M.2 = some (.inl (.byte, t.length, fun j => .int (tCh t j))) ∧ kept M M' (fun c => c = a) ∧ M'.2 = M.2 + 1) jNo := by
  refine jMet_of [some (.ref (a)), some (.ref (b))] (by decide) rfl (Nat.le_of_ble_eq_true rfl) (rfl) hs ?_
  intro C hC9 hG
  have hC := hC9.z
  have hs9 := jOK0_tr hC
  refine j_lt (fun hlt => ?_)
  have hBg : jB C = gB G := by rw [jB, hG]
  subst hG
  refine j_aload_n hC dJ0_init_81219_0 rfl (jrf_ref _) ?_
  refine j_aload_n hC dJ0_init_81219_1 rfl (jrf_ref _) ?_
  refine j_null hC dJ0_init_81219_2 ?_
  refine j_less2 (0 + t.length) (Nat.zero_add _) ?_
  refine c_Pi (kc := 0) (ks := 0) hC ki_J0_489 dJ0_init_81219_3 (m_J0_init_db425 hs9 h1s h hab hBa hBv) rfl rfl (by decide) (Nat.le_of_ble_eq_true rfl) ?_
  intro v9 M1 h9
  obtain ⟨rfl, h9⟩ := h9
  exact j_vret hC9 rfl dJ0_init_81219_6 (⟨rfl, h9⟩)
set_option maxHeartbeats 4000000 in
set_option maxRecDepth 100000 in
theorem m_J4_toString_0e30d {G : jG} {M : jM} {b v cap : Nat} {t : List Nat} (hs : (gL G).stackTraces = false) (h : bufR M.1 b v cap t) (hBv : gB G ≤ v) (hBb : gB G ≤ b) : JMet G jJ4_toString_0e30d [.ref b] (M) 2 (t.length + 4) 5 (fun w M' => w = some (.ref M.2) ∧ M'.1 M.2 = some (.inr (0, [.ref (M.2 + 1), .int (nI 0), .int 0, .int 0])) ∧ M'.1 (M.2 + 1) = some (.inl (.byte, t.length, fun j => .int (tCh t j))) ∧ (∀ a o, M.1 a = some o → M'.1 a = some o) ∧ M'.2 = M.2 + 2) jNo := by
  refine jMet_of [some (.ref (b))] (by decide) rfl (Nat.le_of_ble_eq_true rfl) (rfl) hs ?_
  intro C hC9 hG
  have hC := hC9.z
  have hs9 := jOK0_tr hC
  refine j_lt (fun hlt => ?_)
  have hBg : jB C = gB G := by rw [jB, hG]
  subst hG
  obtain ⟨⟨mb, u, h1, h2, hu, ht, hmb⟩, hle, hcap⟩ := id h
  have hv2 := hlt _ _ h2
  have hb2 := hlt _ _ h1
  refine c_new (kc := 1) (ks := t.length) hC kn_J4_18 dJ4_toString_0e30d_0 rfl ?_
  refine j_dup hC dJ4_toString_0e30d_3 rfl ?_
  refine j_aload_n hC dJ4_toString_0e30d_4 rfl (jrf_ref _) ?_
  refine j_less2 (0 + t.length) (Nat.zero_add _) ?_
  refine c_Pi (kc := 0) (ks := 0) hC ki_J4_137 dJ4_toString_0e30d_5 (m_J0_init_81219 (b := b) (v := v) (cap := cap) (t := t) hs9 jnew_at ⟨⟨mb, u, (jnew_ne (by show b ≠ M.2; omega)).trans h1, (jnew_ne (by show v ≠ M.2; omega)).trans h2, hu, ht, hmb⟩, hle, hcap⟩ (by omega) (by omega) hBv) rfl rfl (by decide) (Nat.le_of_ble_eq_true rfl) ?_
  intro v9 M1 h9
  obtain ⟨rfl, e1, e2, e3, e4⟩ := h9
  exact j_aret hC9 rfl (by first | exact Or.inl ⟨_, rfl⟩ | exact Or.inr ⟨_, rfl⟩) dJ4_toString_0e30d_8 (⟨rfl, e1, e2, fun a9 o9 ha9 => e3 _ _ ((jnew_ne (by have := hlt _ _ ha9; omega)).trans ha9) (show a9 ≠ M.2 by have := hlt _ _ ha9; omega), e4⟩) (jrf_ref _)
