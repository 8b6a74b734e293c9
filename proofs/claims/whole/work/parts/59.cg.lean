/-! ===== bits, address fields ===== -/
def popc (m : Nat) : Nat := m % 2 + m / 2 % 2 + m / 4 % 2 + m / 8 % 2 + m / 16 % 2
def amask (S : aSet) (q : aRec) : Nat := if isHomeA S q = true then maskA q % 16 else maskA q
abbrev shU (x k : Int32) : Int32 := (x.toUInt32 >>> (k.toUInt32 &&& Int32.toUInt32 31)).toInt32
def bc1 (x : Int32) : Int32 := x - (shU x (nI 1) &&& 1431655765)
def bc2 (x : Int32) : Int32 := (x &&& 858993459) + (shU x (nI 2) &&& 858993459)
def bc3 (x : Int32) : Int32 := (x + shU x (nI 4)) &&& 252645135
def bc4 (x : Int32) : Int32 := x + shU x (nI 8)
def bc5 (x : Int32) : Int32 := x + shU x (nI 16)
theorem bc_all : ∀ m, m < 32 → bc5 (bc4 (bc3 (bc2 (bc1 (nI m))))) &&& nI 63 = nI (popc m) := by decide +kernel
theorem and_17 : ∀ m, m < 32 → nI m &&& zI (-17) = nI (m % 16) := by decide +kernel
theorem popc_amask {S : aSet} {q : aRec} : popc (amask S q) = linesA S q := by
  unfold amask linesA
  simp only [cntTo, maskA, sumTo, isLineA]
  by_cases h : isHomeA S q = true <;> by_cases h0 : 0 < (q.2.2 0).length <;> by_cases h1 : 0 < (q.2.2 1).length <;> by_cases h2 : 0 < (q.2.2 2).length <;> by_cases h3 : 0 < (q.2.2 3).length <;> by_cases h4 : 0 < (q.2.2 4).length <;> simp only [h, h0, h1, h2, h3, h4] <;> decide
theorem amask_32 {S : aSet} {q : aRec} : amask S q < 32 := by
  have h := msk_32 (q := q) (g := 5) (Nat.le_refl _)
  have e : sumTo (mskF q) 5 = maskA q := rfl
  rw [amask]
  split <;> omega
theorem mask_32 {q : aRec} : maskA q < 32 := msk_32 (q := q) (g := 5) (Nat.le_refl _)
set_option maxHeartbeats 4000000 in
set_option maxRecDepth 100000 in
theorem m_J6_bitCount_0f7a4 {G : jG} {M : jM} {m : Nat} (hs : (gL G).stackTraces = false) (hm : m < 32) : CM G M jJ6_bitCount_0f7a4 0 0 0 [.int (nI m)] (some (.int (nI (popc m)))) (M) := by
  refine jMet_of [some (.int (nI (m)))] (by decide) rfl (Nat.le_of_ble_eq_true rfl) (rfl) hs ?_
  intro C hC9 hG
  have hC := hC9.z
  have hs9 := jOK0_tr hC
  refine j_iload_n hC dJ6_bitCount_0f7a4_0 rfl ?_
  refine j_iload_n hC dJ6_bitCount_0f7a4_1 rfl ?_
  refine j_iconst (v := nI 1) hC dJ6_bitCount_0f7a4_2 (by decide) ?_
  refine j_iushr hC dJ6_bitCount_0f7a4_3 ?_
  refine j_ldcw (v := 1431655765) hC kq_J6_265 dJ6_bitCount_0f7a4_4 ?_
  refine j_iand hC dJ6_bitCount_0f7a4_7 ?_
  refine j_isub hC dJ6_bitCount_0f7a4_8 ?_
  refine j_top (rfl) ?_
  refine j_istore_n0 hC dJ6_bitCount_0f7a4_9 (by decide) ?_
  refine j_iload_n hC dJ6_bitCount_0f7a4_10 rfl ?_
  refine j_ldcw (v := 858993459) hC kq_J6_266 dJ6_bitCount_0f7a4_11 ?_
  refine j_iand hC dJ6_bitCount_0f7a4_14 ?_
  refine j_iload_n hC dJ6_bitCount_0f7a4_15 rfl ?_
  refine j_iconst (v := nI 2) hC dJ6_bitCount_0f7a4_16 (by decide) ?_
  refine j_iushr hC dJ6_bitCount_0f7a4_17 ?_
  refine j_ldcw (v := 858993459) hC kq_J6_266 dJ6_bitCount_0f7a4_18 ?_
  refine j_iand hC dJ6_bitCount_0f7a4_21 ?_
  refine j_iadd hC dJ6_bitCount_0f7a4_22 ?_
  refine j_top (rfl) ?_
  refine j_istore_n0 hC dJ6_bitCount_0f7a4_23 (by decide) ?_
  refine j_iload_n hC dJ6_bitCount_0f7a4_24 rfl ?_
  refine j_iload_n hC dJ6_bitCount_0f7a4_25 rfl ?_
  refine j_iconst (v := nI 4) hC dJ6_bitCount_0f7a4_26 (by decide) ?_
  refine j_iushr hC dJ6_bitCount_0f7a4_27 ?_
  refine j_iadd hC dJ6_bitCount_0f7a4_28 ?_
  refine j_ldcw (v := 252645135) hC kq_J6_267 dJ6_bitCount_0f7a4_29 ?_
  refine j_iand hC dJ6_bitCount_0f7a4_32 ?_
  refine j_top (rfl) ?_
  refine j_istore_n0 hC dJ6_bitCount_0f7a4_33 (by decide) ?_
  refine j_iload_n hC dJ6_bitCount_0f7a4_34 rfl ?_
  refine j_iload_n hC dJ6_bitCount_0f7a4_35 rfl ?_
  refine j_bipush (v := nI 8) hC dJ6_bitCount_0f7a4_36 (by decide) ?_
  refine j_iushr hC dJ6_bitCount_0f7a4_38 ?_
  refine j_iadd hC dJ6_bitCount_0f7a4_39 ?_
  refine j_top (rfl) ?_
  refine j_istore_n0 hC dJ6_bitCount_0f7a4_40 (by decide) ?_
  refine j_iload_n hC dJ6_bitCount_0f7a4_41 rfl ?_
  refine j_iload_n hC dJ6_bitCount_0f7a4_42 rfl ?_
  refine j_bipush (v := nI 16) hC dJ6_bitCount_0f7a4_43 (by decide) ?_
  refine j_iushr hC dJ6_bitCount_0f7a4_45 ?_
  refine j_iadd hC dJ6_bitCount_0f7a4_46 ?_
  refine j_top (rfl) ?_
  refine j_istore_n0 hC dJ6_bitCount_0f7a4_47 (by decide) ?_
  refine j_iload_n hC dJ6_bitCount_0f7a4_48 rfl ?_
  refine j_bipush (v := nI 63) hC dJ6_bitCount_0f7a4_49 (by decide) ?_
  refine j_iand hC dJ6_bitCount_0f7a4_51 ?_
  exact j_iret hC9 rfl (rfl) dJ6_bitCount_0f7a4_52 ⟨(jv (bc_all m hm)), rfl⟩
set_option maxHeartbeats 4000000 in
set_option maxRecDepth 100000 in
theorem m_X5_addressFields {G : jG} {M : jM} {s z : Nat} {S : aSet} {q : aRec} (hs : (gL G).stackTraces = false) (h : suR M.1 M.1 s S) (hz : entR M.1 z q) : CM G M jX5_addressFields 0 0 6 [.ref s, .ref z] (some (.int (nI (amask S q)))) (M) := by
  refine jMet_of [some (.ref (s)), some (.ref (z)), none] (by decide) rfl (Nat.le_of_ble_eq_true rfl) (rfl) hs ?_
  intro C hC9 hG
  have hC := hC9.z
  have hs9 := jOK0_tr hC
  obtain ⟨⟨lay, home, ff, xe, u1, u2, u5, u3, u6, u7⟩, u4⟩ := id h
  have hn20 : (sRecs S).length ≤ 20 := u4.1.1
  have hk32 : sKeys S < 32 := u4.1.2.1
  have hp3 : sPol S < 3 := u4.1.2.2.1
  have ho1 : sOut S < 1024 := u4.1.2.2.2.1
  have hl2 : sLim S ≤ 200 := u4.1.2.2.2.2.1.2
  have hen : ∀ r, r < (sRecs S).length → (sAt S r).1 < 10 ∧ (sAt S r).2.1 < 100 := fun r hr => ⟨(u3 r hr).2.2.1, (u3 r hr).2.2.2.1⟩
  obtain ⟨b2, o1⟩ := hz.obj
  obtain ⟨fh, oh⟩ := u7.obj
  have hm32 := mask_32 (q := q)
  suffices K : J C (M) 0 0 30 [some (.ref (s)), some (.ref (z)), none] [.int (jb (isHomeA S q = true))] by
    refine j_aload_n hC dX5_addressFields_0 rfl (jrf_ref _) ?_
    refine j_get (v := .ref (home)) hC kf_X5_40 dX5_addressFields_1 (u1) (rfl) ?_
    refine c_V hC kv_X5_78 dX5_addressFields_4 (m_X8_isEmpty hs9 u7) (oh) rfl rfl rfl rfl (by decide) (Nat.le_of_ble_eq_true rfl) ?_
    refine jb_if_ne (tgt := 29) hC dX5_addressFields_7 (by decide) (fun c1 => ?_) (fun c1 => ?_)
    · refine j_iconst (v := nI 0) hC dX5_addressFields_29 (by decide) ?_
      exact j_top (jb_f0 (by rw [isHomeA, Bool.and_eq_true, decide_eq_true_eq]; rintro ⟨e1, e2⟩; first | omega | contradiction)) K
    · refine j_aload_n hC dX5_addressFields_10 rfl (jrf_ref _) ?_
      refine j_iconst (v := nI 4) hC dX5_addressFields_11 (by decide) ?_
      obtain ⟨p2, hp2, mp2⟩ := m_X1_textAt (f := 4) hs9 hz (by omega)
      obtain ⟨fp2, op2⟩ := hp2.obj
      have lp2 := (hz.2.2.2 (4) (by omega)).1
      refine c_V hC kv_X5_74 dX5_addressFields_12 (mp2) (o1) rfl rfl rfl rfl (by decide) (Nat.le_of_ble_eq_true rfl) ?_
      refine j_aload_n hC dX5_addressFields_15 rfl (jrf_ref _) ?_
      refine j_get (v := .ref (home)) hC kf_X5_40 dX5_addressFields_16 (u1) (rfl) ?_
      refine c_V hC kv_X5_86 dX5_addressFields_19 (m_X8_isSameAs hs9 hp2 u7) (op2) rfl rfl rfl rfl (by decide) (Nat.le_of_ble_eq_true rfl) ?_
      refine jb_if_eq (tgt := 29) hC dX5_addressFields_22 (by decide) (fun c3 => ?_) (fun c3 => ?_)
      · refine j_iconst (v := nI 0) hC dX5_addressFields_29 (by decide) ?_
        exact j_top (jb_f0 (by rw [isHomeA, Bool.and_eq_true, decide_eq_true_eq]; rintro ⟨e1, e2⟩; first | omega | contradiction)) K
      · refine j_iconst (v := nI 1) hC dX5_addressFields_25 (by decide) ?_
        refine j_goto (tgt := 30) hC dX5_addressFields_26 (by decide) ?_
        exact j_top (jb_t1 (by rw [isHomeA, Bool.and_eq_true, decide_eq_true_eq]; exact ⟨by omega, by assumption⟩)) K
  refine j_istore_n2 hC dX5_addressFields_30 (by decide) rfl ?_
  refine j_iload_n hC dX5_addressFields_31 rfl ?_
  refine jb_if_eq (tgt := 45) hC dX5_addressFields_32 (by decide) (fun c4 => ?_) (fun c4 => ?_)
  · refine j_aload_n hC dX5_addressFields_45 rfl (jrf_ref _) ?_
    refine c_V hC kv_X5_90 dX5_addressFields_46 (m_X1_filledFields hs9 hz) (o1) rfl rfl rfl rfl (by decide) (Nat.le_of_ble_eq_true rfl) ?_
    exact j_iret hC9 rfl (rfl) dX5_addressFields_49 ⟨(jv (by rw [amask, if_neg (by assumption)])), rfl⟩
  · refine j_aload_n hC dX5_addressFields_35 rfl (jrf_ref _) ?_
    refine c_V hC kv_X5_90 dX5_addressFields_36 (m_X1_filledFields hs9 hz) (o1) rfl rfl rfl rfl (by decide) (Nat.le_of_ble_eq_true rfl) ?_
    refine j_bipush (v := zI (-17)) hC dX5_addressFields_39 (by decide) ?_
    refine j_iand hC dX5_addressFields_41 ?_
    refine j_top (and_17 _ hm32) ?_
    refine j_goto (tgt := 49) hC dX5_addressFields_42 (by decide) ?_
    exact j_iret hC9 rfl (rfl) dX5_addressFields_49 ⟨(jv (by rw [amask, if_pos (by assumption)])), rfl⟩
theorem fit_rf {v : Value} {c : String} (h : jrf v) : fits (.object c) v = true := by
  rcases h with rfl | ⟨a, rfl⟩ <;> rfl
theorem nar_rf {v : Value} {c : String} (h : jrf v) : narrow (.object c) v = v := by
  rcases h with rfl | ⟨a, rfl⟩ <;> rfl
theorem jput_jnew {M : jM} {x z : jO} : jput (jnew M x) M.2 z = jnew M z := by
  refine Prod.ext (funext fun b => ?_) rfl
  simp only [jput, jnew]
  split <;> rfl
set_option maxHeartbeats 4000000 in
set_option maxRecDepth 100000 in
theorem m_X8_init {G : jG} {M : jM} {a : Nat} {v0 : Value} {x : Nat} (hs : (gL G).stackTraces = false) (h1 : M.1 a = some (.inr (12, [v0]))) (hB : gB G ≤ a)  : JMet G jX8_init [.ref a, .ref x] (M) 0 0 1 (fun v M' => v = none ∧ M' = jput M a (.inr (12, [.ref x]))) jNo := by
  refine jMet_of [some (.ref (a)), some (.ref (x))] (by decide) rfl (Nat.le_of_ble_eq_true rfl) (rfl) hs ?_
  intro C hC9 hG
  have hC := hC9.z
  have hs9 := jOK0_tr hC
  refine j_lt (fun hlt => ?_)
  have hBg : jB C = gB G := by rw [jB, hG]
  subst hG
  refine j_aload_n hC dX8_init_0 rfl (jrf_ref _) ?_
  refine j_obj hC ko_X8_1 ko_i ko_c dX8_init_1 (by decide) (Nat.le_of_ble_eq_true rfl) ?_
  refine j_aload_n hC dX8_init_4 rfl (jrf_ref _) ?_
  refine j_aload_n hC dX8_init_5 rfl (jrf_ref _) ?_
  refine c_putF (fs' := [.ref (x)]) hC kp_X8_7 rfl dX8_init_6 (h1) (by omega) (rfl) (rfl) rfl ?_
  exact j_vret hC9 rfl dX8_init_9 (⟨rfl, rfl⟩)
set_option maxHeartbeats 4000000 in
set_option maxRecDepth 100000 in
theorem m_X0_init {G : jG} {M : jM} {a : Nat} {v0 v1 v2 v3 : Value} {p : Prop} [Decidable p] {r n : Nat} {w : Value} (hs : (gL G).stackTraces = false) (h1 : M.1 a = some (.inr (4, [v0, v1, v2, v3]))) (hB : gB G ≤ a) (hw : jrf w) (hr : r < 128) : JMet G jX0_init [.ref a, .int (jb p), .int (nI r), .int (nI n), w] (M) 0 0 1 (fun v M' => v = none ∧ M' = jput M a (.inr (4, [.int (jb p), .int (nI r), .int (nI n), w]))) jNo := by
  refine jMet_of [some (.ref (a)), some (.int (jb (p))), some (.int (nI (r))), some (.int (nI (n))), some (w)] (by decide) rfl (by rcases hw with rfl | ⟨a9, rfl⟩ <;> exact Nat.le_of_ble_eq_true rfl) (by rcases hw with rfl | ⟨a9, rfl⟩ <;> rfl) hs ?_
  intro C hC9 hG
  have hC := hC9.z
  have hs9 := jOK0_tr hC
  refine j_lt (fun hlt => ?_)
  have hBg : jB C = gB G := by rw [jB, hG]
  subst hG
  refine j_aload_n hC dX0_init_0 rfl (jrf_ref _) ?_
  refine j_obj hC ko_X0_1 ko_i ko_c dX0_init_1 (by decide) (Nat.le_of_ble_eq_true rfl) ?_
  refine j_aload_n hC dX0_init_4 rfl (jrf_ref _) ?_
  refine j_iload_n hC dX0_init_5 rfl ?_
  refine c_putF (fs' := [.int (jb (p)), v1, v2, v3]) hC kp_X0_7 rfl dX0_init_6 (h1) (by omega) (jb_nar) (jb_fit) rfl ?_
  refine j_aload_n hC dX0_init_9 rfl (jrf_ref _) ?_
  refine j_iload_n hC dX0_init_10 rfl ?_
  refine c_putF2 (fs' := [.int (jb (p)), .int (nI (r)), v2, v3]) hC kp_X0_13 rfl dX0_init_11 (by omega) (rfl) (rfl) rfl ?_
  refine j_aload_n hC dX0_init_14 rfl (jrf_ref _) ?_
  refine j_iload_n hC dX0_init_15 rfl ?_
  refine c_putF2 (fs' := [.int (jb (p)), .int (nI (r)), .int (nI (n)), v3]) hC kp_X0_17 rfl dX0_init_16 (by omega) (rfl) (rfl) rfl ?_
  refine j_aload_n hC dX0_init_19 rfl (jrf_ref _) ?_
  refine j_aload hC dX0_init_20 rfl (hw) ?_
  refine c_putF2 (fs' := [.int (jb (p)), .int (nI (r)), .int (nI (n)), w]) hC kp_X0_20 rfl dX0_init_22 (by omega) (nar_rf (hw)) (fit_rf (hw)) rfl ?_
  exact j_vret hC9 rfl dX0_init_25 (⟨rfl, rfl⟩)
set_option maxHeartbeats 4000000 in
set_option maxRecDepth 100000 in
theorem m_X1_init_ {G : jG} {M : jM} {a : Nat} {v0 v1 v2 : Value} {g k b : Nat} (hs : (gL G).stackTraces = false) (h1 : M.1 a = some (.inr (5, [v0, v1, v2]))) (hB : gB G ≤ a)  : JMet G jX1_init_ [.ref a, .int (nI g), .int (nI k), .ref b] (M) 0 0 1 (fun v M' => v = none ∧ M' = jput M a (.inr (5, [.int (nI g), .int (nI k), .ref b]))) jNo := by
  refine jMet_of [some (.ref (a)), some (.int (nI (g))), some (.int (nI (k))), some (.ref (b))] (by decide) rfl (Nat.le_of_ble_eq_true rfl) (rfl) hs ?_
  intro C hC9 hG
  have hC := hC9.z
  have hs9 := jOK0_tr hC
  refine j_lt (fun hlt => ?_)
  have hBg : jB C = gB G := by rw [jB, hG]
  subst hG
  refine j_aload_n hC dX1_init__0 rfl (jrf_ref _) ?_
  refine j_obj hC ko_X1_20 ko_i ko_c dX1_init__1 (by decide) (Nat.le_of_ble_eq_true rfl) ?_
  refine j_aload_n hC dX1_init__4 rfl (jrf_ref _) ?_
  refine j_iload_n hC dX1_init__5 rfl ?_
  refine c_putF (fs' := [.int (nI (g)), v1, v2]) hC kp_X1_25 rfl dX1_init__6 (h1) (by omega) (rfl) (rfl) rfl ?_
  refine j_aload_n hC dX1_init__9 rfl (jrf_ref _) ?_
  refine j_iload_n hC dX1_init__10 rfl ?_
  refine c_putF2 (fs' := [.int (nI (g)), .int (nI (k)), v2]) hC kp_X1_29 rfl dX1_init__11 (by omega) (rfl) (rfl) rfl ?_
  refine j_aload_n hC dX1_init__14 rfl (jrf_ref _) ?_
  refine j_aload_n hC dX1_init__15 rfl (jrf_ref _) ?_
  refine c_putF2 (fs' := [.int (nI (g)), .int (nI (k)), .ref (b)]) hC kp_X1_16 rfl dX1_init__16 (by omega) (rfl) (rfl) rfl ?_
  exact j_vret hC9 rfl dX1_init__19 (⟨rfl, rfl⟩)
set_option maxHeartbeats 4000000 in
set_option maxRecDepth 100000 in
theorem m_X4_init {G : jG} {M : jM} {a : Nat} {v0 v1 v2 v3 v4 v5 v6 v7 v8 v9 v10 : Value} {k p d : Nat} {o : Int} (hs : (gL G).stackTraces = false) (h1 : M.1 a = some (.inr (8, [v0, v1, v2, v3, v4, v5, v6, v7, v8, v9, v10]))) (hB : gB G ≤ a)  : JMet G jX4_init [.ref a, .int (nI k), .int (nI p), .int (nI d), .int (zI o)] (M) 0 0 1 (fun v M' => v = none ∧ M' = jput M a (.inr (8, [.int (nI k), .int (nI p), .int (nI d), .int (zI o), .int (nI 32), .int (nI 0), .int (nI 32), .ref (gK G 18), .ref (gK G 18), .null, .int (nI 0)]))) jNo := by
  refine jMet_of [some (.ref (a)), some (.int (nI (k))), some (.int (nI (p))), some (.int (nI (d))), some (.int (zI (o)))] (by decide) rfl (Nat.le_of_ble_eq_true rfl) (rfl) hs ?_
  intro C hC9 hG
  have hC := hC9.z
  have hs9 := jOK0_tr hC
  refine j_lt (fun hlt => ?_)
  have hBg : jB C = gB G := by rw [jB, hG]
  subst hG
  refine j_aload_n hC dX4_init_0 rfl (jrf_ref _) ?_
  refine j_obj hC ko_X4_1 ko_i ko_c dX4_init_1 (by decide) (Nat.le_of_ble_eq_true rfl) ?_
  refine j_aload_n hC dX4_init_4 rfl (jrf_ref _) ?_
  refine j_bipush (v := nI 32) hC dX4_init_5 (by decide) ?_
  refine c_put (fs' := [v0, v1, v2, v3, .int (nI (32)), v5, v6, v7, v8, v9, v10]) hC kp_X4_7 dX4_init_7 (h1) (by omega) (nar_chr _ (by omega)) (fit_chr _ (by omega)) rfl ?_
  refine j_aload_n hC dX4_init_10 rfl (jrf_ref _) ?_
  refine j_iconst (v := nI 0) hC dX4_init_11 (by decide) ?_
  refine c_put2 (fs' := [v0, v1, v2, v3, .int (nI (32)), .int (nI (0)), v6, v7, v8, v9, v10]) hC kp_X4_13 dX4_init_12 (by omega) (rfl) (rfl) rfl ?_
  refine j_aload_n hC dX4_init_15 rfl (jrf_ref _) ?_
  refine j_bipush (v := nI 32) hC dX4_init_16 (by decide) ?_
  refine c_put2 (fs' := [v0, v1, v2, v3, .int (nI (32)), .int (nI (0)), .int (nI (32)), v7, v8, v9, v10]) hC kp_X4_17 dX4_init_18 (by omega) (nar_chr _ (by omega)) (fit_chr _ (by omega)) rfl ?_
  refine j_aload_n hC dX4_init_21 rfl (jrf_ref _) ?_
  refine j_ldcS (i := 18) (is := 20) (text := "") hC rfl dX4_init_22 ?_
  refine c_put2 (fs' := [v0, v1, v2, v3, .int (nI (32)), .int (nI (0)), .int (nI (32)), .ref (gK (jCG C) 18), v8, v9, v10]) hC kp_X4_22 dX4_init_24 (by omega) (rfl) (rfl) rfl ?_
  refine j_aload_n hC dX4_init_27 rfl (jrf_ref _) ?_
  refine j_ldcS (i := 18) (is := 20) (text := "") hC rfl dX4_init_28 ?_
  refine c_put2 (fs' := [v0, v1, v2, v3, .int (nI (32)), .int (nI (0)), .int (nI (32)), .ref (gK (jCG C) 18), .ref (gK (jCG C) 18), v9, v10]) hC kp_X4_26 dX4_init_30 (by omega) (rfl) (rfl) rfl ?_
  refine j_aload_n hC dX4_init_33 rfl (jrf_ref _) ?_
  refine j_null hC dX4_init_34 ?_
  refine c_put2 (fs' := [v0, v1, v2, v3, .int (nI (32)), .int (nI (0)), .int (nI (32)), .ref (gK (jCG C) 18), .ref (gK (jCG C) 18), .null, v10]) hC kp_X4_29 dX4_init_35 (by omega) (rfl) (rfl) rfl ?_
  refine j_aload_n hC dX4_init_38 rfl (jrf_ref _) ?_
  refine j_iconst (v := nI 0) hC dX4_init_39 (by decide) ?_
  refine c_put2 (fs' := [v0, v1, v2, v3, .int (nI (32)), .int (nI (0)), .int (nI (32)), .ref (gK (jCG C) 18), .ref (gK (jCG C) 18), .null, .int (nI (0))]) hC kp_X4_33 dX4_init_40 (by omega) (rfl) (rfl) rfl ?_
  refine j_aload_n hC dX4_init_43 rfl (jrf_ref _) ?_
  refine j_iload_n hC dX4_init_44 rfl ?_
  refine c_putF2 (fs' := [.int (nI (k)), v1, v2, v3, .int (nI (32)), .int (nI (0)), .int (nI (32)), .ref (gK (jCG C) 18), .ref (gK (jCG C) 18), .null, .int (nI (0))]) hC kp_X4_36 rfl dX4_init_45 (by omega) (rfl) (rfl) rfl ?_
  refine j_aload_n hC dX4_init_48 rfl (jrf_ref _) ?_
  refine j_iload_n hC dX4_init_49 rfl ?_
  refine c_putF2 (fs' := [.int (nI (k)), .int (nI (p)), v2, v3, .int (nI (32)), .int (nI (0)), .int (nI (32)), .ref (gK (jCG C) 18), .ref (gK (jCG C) 18), .null, .int (nI (0))]) hC kp_X4_39 rfl dX4_init_50 (by omega) (rfl) (rfl) rfl ?_
  refine j_aload_n hC dX4_init_53 rfl (jrf_ref _) ?_
  refine j_iload_n hC dX4_init_54 rfl ?_
  refine c_putF2 (fs' := [.int (nI (k)), .int (nI (p)), .int (nI (d)), v3, .int (nI (32)), .int (nI (0)), .int (nI (32)), .ref (gK (jCG C) 18), .ref (gK (jCG C) 18), .null, .int (nI (0))]) hC kp_X4_42 rfl dX4_init_55 (by omega) (rfl) (rfl) rfl ?_
  refine j_aload_n hC dX4_init_58 rfl (jrf_ref _) ?_
  refine j_iload hC dX4_init_59 rfl ?_
  refine c_putF2 (fs' := [.int (nI (k)), .int (nI (p)), .int (nI (d)), .int (zI (o)), .int (nI (32)), .int (nI (0)), .int (nI (32)), .ref (gK (jCG C) 18), .ref (gK (jCG C) 18), .null, .int (nI (0))]) hC kp_X4_45 rfl dX4_init_61 (by omega) (rfl) (rfl) rfl ?_
  exact j_vret hC9 rfl dX4_init_64 (⟨rfl, rfl⟩)
theorem max_0 {n : Nat} : max 0 n = n := by omega
theorem j_less2 {C : jC} {M : jM} {kc ks pc : Nat} {l : List (Option Value)} {st : List Value} (ks' : Nat) (h : ks' = ks) (kk : J C M kc ks' pc l st) : J C M kc ks pc l st := h ▸ kk
set_option maxHeartbeats 4000000 in
set_option maxRecDepth 100000 in
theorem m_X2_init {G : jG} {M : jM} {a n : Nat} {v0 v1 v2 v3 v4 v5 : Value} (hs : (gL G).stackTraces = false) (h1 : M.1 a = some (.inr (6, [v0, v1, v2, v3, v4, v5]))) (hB : gB G ≤ a) (hn : n < 20000) : JMet G jX2_init [.ref a, .int (nI n)] (M) 1 n 1 (fun v M' => v = none ∧ M'.1 a = some (.inr (6, [.int (nI n), .ref M.2, .int (nI 0), .int (nI 0), .int (nI 0), .int (nI 0)])) ∧ M'.1 M.2 = some (.inl (.object RX4, n, fun _ => .null)) ∧ M'.2 = M.2 + 1 ∧ ∀ b, b ≠ a → b ≠ M.2 → M'.1 b = M.1 b) jNo := by
  refine jMet_of [some (.ref (a)), some (.int (nI (n)))] (by decide) rfl (Nat.le_of_ble_eq_true rfl) (rfl) hs ?_
  intro C hC9 hG
  have hC := hC9.z
  have hs9 := jOK0_tr hC
  refine j_lt (fun hlt => ?_)
  have hBg : jB C = gB G := by rw [jB, hG]
  subst hG
  have ha := hlt _ _ h1
  refine j_aload_n hC dX2_init_0 rfl (jrf_ref _) ?_
  refine j_obj hC ko_X2_1 ko_i ko_c dX2_init_1 (by decide) (Nat.le_of_ble_eq_true rfl) ?_
  refine j_aload_n hC dX2_init_4 rfl (jrf_ref _) ?_
  refine j_iconst (v := nI 0) hC dX2_init_5 (by decide) ?_
  refine c_put (fs' := [v0, v1, .int (nI (0)), v3, v4, v5]) hC kp_X2_7 dX2_init_6 (h1) (by omega) (rfl) (rfl) rfl ?_
  refine j_aload_n hC dX2_init_9 rfl (jrf_ref _) ?_
  refine j_iconst (v := nI 0) hC dX2_init_10 (by decide) ?_
  refine c_put2 (fs' := [v0, v1, .int (nI (0)), .int (nI (0)), v4, v5]) hC kp_X2_13 dX2_init_11 (by omega) (rfl) (rfl) rfl ?_
  refine j_aload_n hC dX2_init_14 rfl (jrf_ref _) ?_
  refine j_iconst (v := nI 0) hC dX2_init_15 (by decide) ?_
  refine c_put2 (fs' := [v0, v1, .int (nI (0)), .int (nI (0)), .int (nI (0)), v5]) hC kp_X2_16 dX2_init_16 (by omega) (rfl) (rfl) rfl ?_
  refine j_aload_n hC dX2_init_19 rfl (jrf_ref _) ?_
  refine j_iconst (v := nI 0) hC dX2_init_20 (by decide) ?_
  refine c_put2 (fs' := [v0, v1, .int (nI (0)), .int (nI (0)), .int (nI (0)), .int (nI (0))]) hC kp_X2_19 dX2_init_21 (by omega) (rfl) (rfl) rfl ?_
  refine j_aload_n hC dX2_init_24 rfl (jrf_ref _) ?_
  refine j_iload_n hC dX2_init_25 rfl ?_
  refine c_putF2 (fs' := [.int (nI (n)), v1, .int (nI (0)), .int (nI (0)), .int (nI (0)), .int (nI (0))]) hC kp_X2_22 rfl dX2_init_26 (by omega) (rfl) (rfl) rfl ?_
  refine j_aload_n hC dX2_init_29 rfl (jrf_ref _) ?_
  refine j_iconst (v := nI 0) hC dX2_init_30 (by decide) ?_
  refine j_iload_n hC dX2_init_31 rfl ?_
  refine c_max (a := 0) (b := n) hC ks_X2_25 dX2_init_32 (by omega) (by omega) (by decide) (Nat.le_of_ble_eq_true rfl) ?_
  refine j_top (show nI (max 0 n) = nI n by rw [max_0]) ?_
  refine j_less2 (0 + n) (Nat.zero_add n) ?_
  refine c_anew (kc := 0) (ks := 0) hC ka_X2_31 (by decide) dX2_init_35 (by omega) ?_
  refine c_putF (fs' := [.int (nI (n)), .ref (M.2), .int (nI (0)), .int (nI (0)), .int (nI (0)), .int (nI (0))]) hC kp_X2_33 rfl dX2_init_38 ((jnew_ne (by show (a) ≠ M.2; omega)).trans (jput_at)) (by omega) (rfl) (rfl) rfl ?_
  exact j_vret hC9 rfl dX2_init_41 (⟨rfl, jput_at, (jput_ne (show M.2 ≠ a by omega)).trans jnew_at, rfl, fun b h1 h2 => (jput_ne h1).trans ((jnew_ne (M := jput M a _) h2).trans (jput_ne h1))⟩)
/-- what never changes grows by new objects alone, below b + k -/
def zexN (M : jM) (Z Z' : jH) (k : Nat) : Prop := sub Z Z' ∧ ∀ a o, Z' a = some o → Z a = some o ∨ (M.2 ≤ a ∧ a < M.2 + k)
theorem zexN.ex {M : jM} {Z Z' : jH} {k : Nat} (hlt : ∀ a o, M.1 a = some o → a < M.2) (h : zexN M Z Z' k) : zex M Z Z' := by
  refine ⟨h.1, fun a o ha => (h.2 a o ha).imp id (fun g => ?_)⟩
  cases e : M.1 a with
  | none => rfl
  | some x => have := hlt _ _ e; omega
def zadd (Z H : jH) (b k : Nat) : jH := fun a => if b ≤ a ∧ a < b + k then H a else Z a
theorem zadd_in {Z H : jH} {b k a : Nat} (h : b ≤ a) (h2 : a < b + k) : zadd Z H b k a = H a := if_pos ⟨h, h2⟩
theorem zadd_out {Z H : jH} {b k a : Nat} (h : ¬ (b ≤ a ∧ a < b + k)) : zadd Z H b k a = Z a := if_neg h
theorem zadd_N {M : jM} {Z H : jH} {k : Nat} (hz : sub Z M.1) (hlt : ∀ a o, M.1 a = some o → a < M.2) : zexN M Z (zadd Z H M.2 k) k := by
  refine ⟨fun a o h => (zadd_out (fun e => ?_)).trans h, fun a o h => ?_⟩
  · have := hlt _ _ (hz _ _ h); omega
  · by_cases e : M.2 ≤ a ∧ a < M.2 + k
    · exact Or.inr e
    · rw [zadd_out e] at h; exact Or.inl h
theorem zadd_sub {M : jM} {Z H : jH} {k : Nat} (h : sub Z H) : sub (zadd Z H M.2 k) H := by
  intro a o ha
  by_cases e : M.2 ≤ a ∧ a < M.2 + k
  · rw [zadd, if_pos e] at ha; exact ha
  · rw [zadd_out e] at ha; exact h a o ha
/-- all that is known stays, but for W -/
def kept (M M' : jM) (W : Nat → Prop) : Prop := ∀ a o, M.1 a = some o → ¬ W a → M'.1 a = some o
theorem kept.sub {M M' : jM} {Z : jH} {W : Nat → Prop} (h : kept M M' W) (hz : sub Z M.1) (hw : ∀ a, W a → Z a = none) : sub Z M'.1 := fun a o ha => h a o (hz a o ha) (fun e => by rw [hw a e] at ha; cases ha)
theorem lay_0 : mskT [] = 0 ∧ pDeep (pEnd []) = 0 ∧ brN (pIts (pEnd [])) = 0 ∧ (pIts (pEnd [])).length = 0 ∧ pOK [] = true := by decide +kernel
/-- an empty layout -/
theorem layR_0 {Z : jH} {a b : Nat} {f : Nat → Value} (h1 : Z a = some (.inr (6, [.int (nI 0), .ref b, .int (nI 0), .int (nI 0), .int (nI 0), .int (nI 0)]))) (h2 : Z b = some (.inl (.object RX4, 0, f))) : layR Z a [] := by
  refine ⟨⟨b, f, ?_, h2, fun i hi => ?_⟩, by decide, (fun c h => by cases h), lay_0.2.2.2.2⟩
  · rw [h1, lay_0.1, lay_0.2.1, lay_0.2.2.1, lay_0.2.2.2.1]; rfl
  · rw [lay_0.2.2.2.1] at hi; omega
theorem set0_G : setG set0 := by
  refine ⟨⟨by decide, by decide, by decide, by decide, by decide, ⟨by decide, fun c h => by cases h⟩, ?_⟩, lay_0.2.2.2.2⟩
  first | exact ⟨⟨by decide, fun c h => by cases h⟩, fun q h => by cases h⟩ | exact ⟨by decide, fun c h => by cases h⟩ | decide
/-- a setup's two objects, and entries in the row -/
def suE (H Z : jH) (s : Nat) : Prop := ∃ (v1 v2 v3 v4 v5 v6 v7 : Value) (f : Nat → Value), H s = some (.inr (9, [.ref (s + 1), v1, v2, v3, v4, v5, v6, v7])) ∧ H (s + 1) = some (.inl (.object RX1, 20, f)) ∧ ∀ i, i < 20 → entV Z (f i)
theorem suR.E {H Z : jH} {s : Nat} {S : aSet} (h : suR H Z s S) : suE H Z s := by
  obtain ⟨⟨lay, home, f, xe, h1, h2, h3, -⟩, -⟩ := h
  exact ⟨_, _, _, _, _, _, _, f, h1, h2, h3⟩
theorem entV_0 {Z : jH} : entV Z .null := Or.inl rfl
theorem suR_0 {H Z : jH} {s lay home : Nat} {f : Nat → Value} (h1 : H s = some (.inr (9, [.ref (s + 1), .int (nI 0), .ref lay, .ref home, .int (nI 0), .int (nI 0), .int (nI 0), .int (nI 100)]))) (h2 : H (s + 1) = some (.inl (.object RX1, 20, f))) (h3 : ∀ i, i < 20 → entV Z (f i)) (h4 : layR Z lay []) (h5 : txtR Z home []) : suR H Z s set0 :=
  ⟨⟨lay, home, f, fun _ => 0, h1, h2, h3, fun r hr => absurd hr (Nat.not_lt_zero r), h4, h5⟩, set0_G⟩
theorem str_0 {Z H : jH} (hz : sub Z H) {a : Nat} {t : List Nat} (h : strR Z a t) : strR H a t := h.mono hz
set_option maxHeartbeats 4000000 in
set_option maxRecDepth 100000 in
theorem m_X5_reset {G : jG} {M : jM} {s : Nat} {Z : jH} (hs : (gL G).stackTraces = false) (h : suE M.1 Z s) (hz : sub Z M.1) (hZ0 : Z s = none) (hk : strR Z (gK G 0) []) (hBs : gB G ≤ s) : JMet G jX5_reset [.ref s] (M) 3 7 2 (fun v M' => v = none ∧ ∃ Z', zexN M Z Z' 3 ∧ sub Z' M'.1 ∧ suR M'.1 Z' s set0 ∧ kept M M' (fun a => a = s) ∧ M'.2 = M.2 + 3) jNo := by
  refine jMet_of [some (.ref (s))] (by decide) rfl (Nat.le_of_ble_eq_true rfl) (rfl) hs ?_
  intro C hC9 hG
  have hC := hC9.z
  have hs9 := jOK0_tr hC
  refine j_lt (fun hlt => ?_)
  have hBg : jB C = gB G := by rw [jB, hG]
  subst hG
  obtain ⟨v1, v2, v3, v4, v5, v6, v7, f, h1, h2, h3⟩ := h
  have hs2 := hlt _ _ h2
  have hs1 := hlt _ _ h1
  refine j_aload_n hC dX5_reset_0 rfl (jrf_ref _) ?_
  refine j_iconst (v := nI 0) hC dX5_reset_1 (by decide) ?_
  refine c_put (fs' := [.ref (s + 1), .int (nI (0)), v2, v3, v4, v5, v6, v7]) hC kp_X5_20 dX5_reset_2 (h1) (by omega) (rfl) (rfl) rfl ?_
  refine j_aload_n hC dX5_reset_5 rfl (jrf_ref _) ?_
  refine c_new (kc := 2) (ks := 1) hC kn_X5_24 dX5_reset_6 rfl ?_
  refine j_dup hC dX5_reset_9 rfl ?_
  refine j_iconst (v := nI 0) hC dX5_reset_10 (by decide) ?_
  refine c_Pi (kc := 1) (ks := 1) hC ki_X5_26 dX5_reset_11 (m_X2_init (n := 0) hs9 (jnew_at) (by first | omega | (show _ ≤ M.2; omega)) (by omega)) rfl rfl (by decide) (Nat.le_of_ble_eq_true rfl) ?_
  intro v9 M1 h9
  obtain ⟨rfl, eM1, fM1, gM1, kM1⟩ := h9
  replace gM1 : M1.2 = M.2 + 2 := gM1
  replace kM1 : ∀ b, b ≠ M.2 → b ≠ M.2 + 1 → M1.1 b = _ := kM1
  refine c_put (fs' := [.ref (s + 1), .int (nI (0)), .ref (M.2), v3, v4, v5, v6, v7]) hC kp_X5_29 dX5_reset_14 ((kM1 _ (by omega) (by omega)).trans ((jnew_ne (by show (s) ≠ M.2; omega)).trans (jput_at))) (by omega) (rfl) (rfl) rfl ?_
  refine j_aload_n hC dX5_reset_17 rfl (jrf_ref _) ?_
  refine c_new (kc := 0) (ks := 0) hC kn_X5_33 dX5_reset_18 rfl ?_
  refine j_dup hC dX5_reset_21 rfl ?_
  refine j_ldcS (i := 0) (is := 35) (text := "") hC rfl dX5_reset_22 ?_
  refine c_Ik (kc' := 0) (ks' := 0) (kc := 0) (ks := 0) hC ki_X5_37 dX5_reset_24 (m_X8_init (x := gK (jCG C) 0) hs9 (jnew_at) (by first | omega | (show _ ≤ M1.2; omega))) rfl rfl (by decide) (Nat.le_of_ble_eq_true rfl) ?_
  refine c_put (fs' := [.ref (s + 1), .int (nI (0)), .ref (M.2), .ref (M1.2), v4, v5, v6, v7]) hC kp_X5_40 dX5_reset_27 ((jput_ne (by show (s) ≠ (M1.2); omega)).trans ((jnew_ne (by show (s) ≠ M1.2; omega)).trans (jput_at))) (by omega) (rfl) (rfl) rfl ?_
  refine j_aload_n hC dX5_reset_30 rfl (jrf_ref _) ?_
  refine j_iconst (v := nI 0) hC dX5_reset_31 (by decide) ?_
  refine c_put2 (fs' := [.ref (s + 1), .int (nI (0)), .ref (M.2), .ref (M1.2), .int (nI (0)), v5, v6, v7]) hC kp_X5_44 dX5_reset_32 (by omega) (rfl) (rfl) rfl ?_
  refine j_aload_n hC dX5_reset_35 rfl (jrf_ref _) ?_
  refine j_iconst (v := nI 0) hC dX5_reset_36 (by decide) ?_
  refine c_put2 (fs' := [.ref (s + 1), .int (nI (0)), .ref (M.2), .ref (M1.2), .int (nI (0)), .int (nI (0)), v6, v7]) hC kp_X5_47 dX5_reset_37 (by omega) (rfl) (rfl) rfl ?_
  refine j_aload_n hC dX5_reset_40 rfl (jrf_ref _) ?_
  refine j_iconst (v := nI 0) hC dX5_reset_41 (by decide) ?_
  refine c_put2 (fs' := [.ref (s + 1), .int (nI (0)), .ref (M.2), .ref (M1.2), .int (nI (0)), .int (nI (0)), .int (nI (0)), v7]) hC kp_X5_50 dX5_reset_42 (by omega) (rfl) (rfl) rfl ?_
  refine j_aload_n hC dX5_reset_45 rfl (jrf_ref _) ?_
  refine j_bipush (v := nI 100) hC dX5_reset_46 (by decide) ?_
  refine c_put2 (fs' := [.ref (s + 1), .int (nI (0)), .ref (M.2), .ref (M1.2), .int (nI (0)), .int (nI (0)), .int (nI (0)), .int (nI (100))]) hC kp_X5_53 dX5_reset_48 (by omega) (rfl) (rfl) rfl ?_
  refine j_M (show _ = jput (jput (jnew (jput (M1) (s) (.inr (9, [.ref (s + 1), .int (nI (0)), .ref (M.2), v3, v4, v5, v6, v7]))) (.inr (12, [.null]))) (M1.2) (.inr (12, [.ref (gK (jCG C) 0)]))) (s) (.inr (9, [.ref (s + 1), .int (nI (0)), .ref (M.2), .ref (M1.2), .int (nI (0)), .int (nI (0)), .int (nI (0)), .int (nI (100))])) from rfl) ?_
  have q1 : (jput (jput (jnew (jput (M1) (s) (.inr (9, [.ref (s + 1), .int (nI (0)), .ref (M.2), v3, v4, v5, v6, v7]))) (.inr (12, [.null]))) (M1.2) (.inr (12, [.ref (gK (jCG C) 0)]))) (s) (.inr (9, [.ref (s + 1), .int (nI (0)), .ref (M.2), .ref (M1.2), .int (nI (0)), .int (nI (0)), .int (nI (0)), .int (nI (100))]))).1 s = some (.inr (9, [.ref (s + 1), .int (nI (0)), .ref (M.2), .ref (M1.2), .int (nI (0)), .int (nI (0)), .int (nI (0)), .int (nI (100))])) := jput_at
  have q2 : (jput (jput (jnew (jput (M1) (s) (.inr (9, [.ref (s + 1), .int (nI (0)), .ref (M.2), v3, v4, v5, v6, v7]))) (.inr (12, [.null]))) (M1.2) (.inr (12, [.ref (gK (jCG C) 0)]))) (s) (.inr (9, [.ref (s + 1), .int (nI (0)), .ref (M.2), .ref (M1.2), .int (nI (0)), .int (nI (0)), .int (nI (0)), .int (nI (100))]))).1 (s + 1) = some (.inl (.object RX1, 20, f)) := (jput_ne (by show (s + 1) ≠ (s); omega)).trans ((jput_ne (by show (s + 1) ≠ (M1.2); omega)).trans ((jnew_ne (by show (s + 1) ≠ M1.2; omega)).trans ((jput_ne (by show (s + 1) ≠ (s); omega)).trans ((kM1 _ (by omega) (by omega)).trans ((jnew_ne (by show (s + 1) ≠ M.2; omega)).trans ((jput_ne (by show (s + 1) ≠ (s); omega)).trans (h2)))))))
  have q3 : (jput (jput (jnew (jput (M1) (s) (.inr (9, [.ref (s + 1), .int (nI (0)), .ref (M.2), v3, v4, v5, v6, v7]))) (.inr (12, [.null]))) (M1.2) (.inr (12, [.ref (gK (jCG C) 0)]))) (s) (.inr (9, [.ref (s + 1), .int (nI (0)), .ref (M.2), .ref (M1.2), .int (nI (0)), .int (nI (0)), .int (nI (0)), .int (nI (100))]))).1 M.2 = some (.inr (6, [.int (nI 0), .ref (M.2 + 1), .int (nI 0), .int (nI 0), .int (nI 0), .int (nI 0)])) := (jput_ne (by show (M.2) ≠ (s); omega)).trans ((jput_ne (by show (M.2) ≠ (M1.2); omega)).trans ((jnew_ne (by show (M.2) ≠ M1.2; omega)).trans ((jput_ne (by show (M.2) ≠ (s); omega)).trans (eM1))))
  have q4 : (jput (jput (jnew (jput (M1) (s) (.inr (9, [.ref (s + 1), .int (nI (0)), .ref (M.2), v3, v4, v5, v6, v7]))) (.inr (12, [.null]))) (M1.2) (.inr (12, [.ref (gK (jCG C) 0)]))) (s) (.inr (9, [.ref (s + 1), .int (nI (0)), .ref (M.2), .ref (M1.2), .int (nI (0)), .int (nI (0)), .int (nI (0)), .int (nI (100))]))).1 (M.2 + 1) = some (.inl (.object RX4, 0, _)) := (jput_ne (by show (M.2 + 1) ≠ (s); omega)).trans ((jput_ne (by show (M.2 + 1) ≠ (M1.2); omega)).trans ((jnew_ne (by show (M.2 + 1) ≠ M1.2; omega)).trans ((jput_ne (by show (M.2 + 1) ≠ (s); omega)).trans (fM1))))
  have q5 : (jput (jput (jnew (jput (M1) (s) (.inr (9, [.ref (s + 1), .int (nI (0)), .ref (M.2), v3, v4, v5, v6, v7]))) (.inr (12, [.null]))) (M1.2) (.inr (12, [.ref (gK (jCG C) 0)]))) (s) (.inr (9, [.ref (s + 1), .int (nI (0)), .ref (M.2), .ref (M1.2), .int (nI (0)), .int (nI (0)), .int (nI (0)), .int (nI (100))]))).1 M1.2 = some (.inr (12, _)) := (jput_ne (by show (M1.2) ≠ (s); omega)).trans (jput_at)
  have q6 : kept M (jput (jput (jnew (jput (M1) (s) (.inr (9, [.ref (s + 1), .int (nI (0)), .ref (M.2), v3, v4, v5, v6, v7]))) (.inr (12, [.null]))) (M1.2) (.inr (12, [.ref (gK (jCG C) 0)]))) (s) (.inr (9, [.ref (s + 1), .int (nI (0)), .ref (M.2), .ref (M1.2), .int (nI (0)), .int (nI (0)), .int (nI (0)), .int (nI (100))]))) (fun a => a = s) := (fun a9 o9 ha9 hn9 => by
    have hl9 := hlt _ _ ha9
    have hn8 : a9 ≠ s := hn9
    exact (jput_ne (by show (a9) ≠ (s); omega)).trans ((jput_ne (by show (a9) ≠ (M1.2); omega)).trans ((jnew_ne (by show (a9) ≠ M1.2; omega)).trans ((jput_ne (by show (a9) ≠ (s); omega)).trans ((kM1 _ (by omega) (by omega)).trans ((jnew_ne (by show (a9) ≠ M.2; omega)).trans ((jput_ne (by show (a9) ≠ (s); omega)).trans (ha9))))))))
  have q7 : (jput (jput (jnew (jput (M1) (s) (.inr (9, [.ref (s + 1), .int (nI (0)), .ref (M.2), v3, v4, v5, v6, v7]))) (.inr (12, [.null]))) (M1.2) (.inr (12, [.ref (gK (jCG C) 0)]))) (s) (.inr (9, [.ref (s + 1), .int (nI (0)), .ref (M.2), .ref (M1.2), .int (nI (0)), .int (nI (0)), .int (nI (0)), .int (nI (100))]))).2 = M.2 + 3 := by show M1.2 + 1 = _; omega
  generalize jput (jput (jnew (jput (M1) (s) (.inr (9, [.ref (s + 1), .int (nI (0)), .ref (M.2), v3, v4, v5, v6, v7]))) (.inr (12, [.null]))) (M1.2) (.inr (12, [.ref (gK (jCG C) 0)]))) (s) (.inr (9, [.ref (s + 1), .int (nI (0)), .ref (M.2), .ref (M1.2), .int (nI (0)), .int (nI (0)), .int (nI (0)), .int (nI (100))])) = M9 at q1 q2 q3 q4 q5 q6 q7 ⊢
  have q8 := q6.sub hz (fun a e => e ▸ hZ0)
  have q9 := zadd_N (H := M9.1) (k := 3) hz hlt
  exact j_vret hC9 rfl dX5_reset_51 (⟨rfl, _, q9, zadd_sub q8, suR_0 q1 q2 (fun i hi => (h3 i hi).mono q9.1) (layR_0 ((zadd_in (by omega) (by omega)).trans q3) ((zadd_in (by omega) (by omega)).trans q4)) ⟨_, (zadd_in (by omega) (by omega)).trans q5, hk.mono q9.1⟩, q6, q7⟩)
