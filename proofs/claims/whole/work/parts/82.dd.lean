/-! ===== the merger: what its calls have in common ===== -/
set_option maxHeartbeats 4000000 in
set_option maxRecDepth 100000 in
theorem m_X9_isGroup {G : jG} {M : jM} {g : Int32} (hs : (gL G).stackTraces = false)  : CM G M jX9_isGroup 0 0 0 [.int g] (some (.int (jb (jin g 10 = true)))) (M) := by
  refine jMet_of [some (.int (g))] (by decide) rfl (Nat.le_of_ble_eq_true rfl) (rfl) hs ?_
  intro C hC9 hG
  have hC := hC9.z
  have hs9 := jOK0_tr hC
  refine j_iload_n hC dX9_isGroup_0 rfl ?_
  refine j_if_lt (tgt := 14) hC dX9_isGroup_1 (by decide) (fun c1 => ?_) (fun c1 => ?_)
  · refine j_iconst (v := nI 0) hC dX9_isGroup_14 (by decide) ?_
    exact j_iret hC9 rfl (rfl) dX9_isGroup_15 ⟨(jv (jb_f0 (by first | exact jin_n0 (by assumption) | exact jin_n1 (by decide) (by assumption)))), rfl⟩
  · refine j_iload_n hC dX9_isGroup_4 rfl ?_
    refine j_bipush (v := nI 10) hC dX9_isGroup_5 (by decide) ?_
    refine j_icmp_ge (tgt := 14) hC dX9_isGroup_7 (by decide) (fun c2 => ?_) (fun c2 => ?_)
    · refine j_iconst (v := nI 0) hC dX9_isGroup_14 (by decide) ?_
      exact j_iret hC9 rfl (rfl) dX9_isGroup_15 ⟨(jv (jb_f0 (by first | exact jin_n0 (by assumption) | exact jin_n1 (by decide) (by assumption)))), rfl⟩
    · refine j_iconst (v := nI 1) hC dX9_isGroup_10 (by decide) ?_
      refine j_goto (tgt := 15) hC dX9_isGroup_11 (by decide) ?_
      exact j_iret hC9 rfl (rfl) dX9_isGroup_15 ⟨(jv (jb_t1 (jin_c (n := 10) (by decide) (by assumption) (by assumption)))), rfl⟩
set_option maxHeartbeats 4000000 in
set_option maxRecDepth 100000 in
theorem m_X9_isCountInRange {G : jG} {M : jM} {g : Int32} (hs : (gL G).stackTraces = false)  : CM G M jX9_isCountInRange 0 0 0 [.int g] (some (.int (jb (jin g 100 = true)))) (M) := by
  refine jMet_of [some (.int (g))] (by decide) rfl (Nat.le_of_ble_eq_true rfl) (rfl) hs ?_
  intro C hC9 hG
  have hC := hC9.z
  have hs9 := jOK0_tr hC
  refine j_iload_n hC dX9_isCountInRange_0 rfl ?_
  refine j_if_lt (tgt := 14) hC dX9_isCountInRange_1 (by decide) (fun c1 => ?_) (fun c1 => ?_)
  · refine j_iconst (v := nI 0) hC dX9_isCountInRange_14 (by decide) ?_
    exact j_iret hC9 rfl (rfl) dX9_isCountInRange_15 ⟨(jv (jb_f0 (by first | exact jin_n0 (by assumption) | exact jin_n2 (n := 99) (by decide) (by assumption)))), rfl⟩
  · refine j_iload_n hC dX9_isCountInRange_4 rfl ?_
    refine j_bipush (v := nI 99) hC dX9_isCountInRange_5 (by decide) ?_
    refine j_icmp_gt (tgt := 14) hC dX9_isCountInRange_7 (by decide) (fun c2 => ?_) (fun c2 => ?_)
    · refine j_iconst (v := nI 0) hC dX9_isCountInRange_14 (by decide) ?_
      exact j_iret hC9 rfl (rfl) dX9_isCountInRange_15 ⟨(jv (jb_f0 (by first | exact jin_n0 (by assumption) | exact jin_n2 (n := 99) (by decide) (by assumption)))), rfl⟩
    · refine j_iconst (v := nI 1) hC dX9_isCountInRange_10 (by decide) ?_
      refine j_goto (tgt := 15) hC dX9_isCountInRange_11 (by decide) ?_
      exact j_iret hC9 rfl (rfl) dX9_isCountInRange_15 ⟨(jv (jb_t1 (jin_c2 (n := 99) (by decide) (by assumption) (by assumption)))), rfl⟩
set_option maxHeartbeats 4000000 in
set_option maxRecDepth 100000 in
theorem m_X9_byteAt {G : jG} {M : jM} {p : Int32} {k : Int} {i : Nat} (hs : (gL G).stackTraces = false) (hk : k = 24 - 8 * (i : Int)) (hi : i < 4) : CM G M jX9_byteAt 0 0 0 [.int p, .int (zI k)] (some (.int (nI (byteN p (3 - i))))) (M) := by
  refine jMet_of [some (.int (p)), some (.int (zI (k)))] (by decide) rfl (Nat.le_of_ble_eq_true rfl) (rfl) hs ?_
  intro C hC9 hG
  have hC := hC9.z
  have hs9 := jOK0_tr hC
  refine j_iload_n hC dX9_byteAt_0 rfl ?_
  refine j_iload_n hC dX9_byteAt_1 rfl ?_
  refine j_iushr hC dX9_byteAt_2 ?_
  refine j_sipush (v := nI 255) hC dX9_byteAt_3 (by decide) ?_
  refine j_iand hC dX9_byteAt_6 ?_
  exact j_iret hC9 rfl (rfl) dX9_byteAt_7 ⟨(jv (ap_byte hk hi)), rfl⟩
set_option maxHeartbeats 4000000 in
set_option maxRecDepth 100000 in
theorem m_X9_checkField {G : jG} {M : jM} {f : Int32} (hs : (gL G).stackTraces = false)  : JMet G jX9_checkField [.int f] (M) 1 6 6 (fun w M' => w = none ∧ M' = M ∧ jin f 5 = true) (fun E M' => E = "java/lang/IndexOutOfBoundsException" ∧ M'.1 = M.1 ∧ ¬ jin f 5 = true) := by
  refine jMet_of [some (.int (f))] (by decide) rfl (Nat.le_of_ble_eq_true rfl) (rfl) hs ?_
  intro C hC9 hG
  have hC := hC9.z
  have hs9 := jOK0_tr hC
  refine j_lt (fun hlt => ?_)
  have hBg : jB C = gB G := by rw [jB, hG]
  subst hG
  refine j_iload_n hC dX9_checkField_0 rfl ?_
  refine j_if_lt (tgt := 9) hC dX9_checkField_1 (by decide) (fun c1 => ?_) (fun c1 => ?_)
  · exact j_throwSW hC9 (i := 7) rfl kt_X9_272 rfl dX9_checkField_9 dX9_checkField_12 dX9_checkField_13 dX9_checkField_16 dX9_checkField_19 (by decide) (by decide) (by decide) (Nat.le_of_ble_eq_true rfl) (fun n9 => ⟨rfl, rfl, by first | exact jin_n0 (by assumption) | exact jin_n1 (by omega) (by assumption) | exact jin_n3 (by omega) (by assumption)⟩)
  · refine j_iload_n hC dX9_checkField_4 rfl ?_
    refine j_iconst (v := nI 5) hC dX9_checkField_5 (by decide) ?_
    refine j_icmp_lt (tgt := 20) hC dX9_checkField_6 (by decide) (fun c2 => ?_) (fun c2 => ?_)
    · exact j_vret hC9 rfl dX9_checkField_20 (⟨rfl, rfl, by first | exact jin_c (n := 5) (by omega) (by assumption) (by assumption) | exact jin_c3 (n := 5) (by omega) (by assumption) (by assumption)⟩)
    · exact j_throwSW hC9 (i := 7) rfl kt_X9_272 rfl dX9_checkField_9 dX9_checkField_12 dX9_checkField_13 dX9_checkField_16 dX9_checkField_19 (by decide) (by decide) (by decide) (Nat.le_of_ble_eq_true rfl) (fun n9 => ⟨rfl, rfl, by first | exact jin_n0 (by assumption) | exact jin_n1 (by omega) (by assumption) | exact jin_n3 (by omega) (by assumption)⟩)
set_option maxHeartbeats 4000000 in
set_option maxRecDepth 100000 in
theorem m_X9_wrongPlaceOfField {G : jG} {M : jM} {tx : Nat} {t : List Nat} (hs : (gL G).stackTraces = false) (htx : strR M.1 tx t) (hl : t.length ≤ 120) : CM G M jX9_wrongPlaceOfField 0 0 4 [.ref tx] (some (.int (zI (optZ (wrongA t))))) (M) := by
  refine jMet_of [some (.ref (tx)), none] (by decide) rfl (Nat.le_of_ble_eq_true rfl) (rfl) hs ?_
  intro C hC9 hG
  have hC := hC9.z
  have hs9 := jOK0_tr hC
  obtain ⟨fx, hxo⟩ := htx.obj
  refine j_iconst (v := nI 0) hC dX9_wrongPlaceOfField_0 (by decide) ?_
  refine j_istore_n1 hC dX9_wrongPlaceOfField_1 (by decide) rfl ?_
  suffices K : ∀ (n9 : Nat) (i : Nat), t.length - i < n9 → (i ≤ t.length) → (∀ j, j < i → ¬ (j = 12 ∨ t.getD j 0 = 47)) → J C (M) 0 0 2 [some (.ref (tx)), some (.int (nI (i)))] [] from j_M (rfl) (K _ (0) (Nat.lt_succ_self _) (Nat.zero_le _) (fun j hj => absurd hj (Nat.not_lt_zero j)))
  intro n9
  induction n9 with
  | zero => intro i hm; omega
  | succ n9 ih =>
    intro i hm hi ha
    refine j_iload_n hC dX9_wrongPlaceOfField_2 rfl ?_
    refine j_aload_n hC dX9_wrongPlaceOfField_3 rfl (jrf_ref _) ?_
    refine c_V hC kv_X9_387 dX9_wrongPlaceOfField_4 (m_J0_length_8abf5 hs9 htx) (hxo) rfl rfl rfl rfl (by decide) (Nat.le_of_ble_eq_true rfl) ?_
    refine n_icmp_ge (tgt := 34) hC dX9_wrongPlaceOfField_7 (by decide) (by omega) (by omega) (fun c1 => ?_) (fun c1 => ?_)
    · refine j_iconst (v := zI (-1)) hC dX9_wrongPlaceOfField_34 (by decide) ?_
      exact j_iret hC9 rfl (rfl) dX9_wrongPlaceOfField_35 ⟨(jv (by rw [wrong_n (fun j hj => ha j (by omega))]; rfl)), rfl⟩
    · refine j_iload_n hC dX9_wrongPlaceOfField_10 rfl ?_
      refine j_bipush (v := nI 12) hC dX9_wrongPlaceOfField_11 (by decide) ?_
      refine n_icmp_eq (tgt := 26) hC dX9_wrongPlaceOfField_13 (by decide) (by omega) (by omega) (fun c2 => ?_) (fun c2 => ?_)
      · refine j_iload_n hC dX9_wrongPlaceOfField_26 rfl ?_
        exact j_iret hC9 rfl (rfl) dX9_wrongPlaceOfField_27 ⟨(jv (by rw [wrong_k (k := i) (by omega) (by first | exact Or.inl (by assumption) | exact Or.inr (by assumption)) ha]; rfl)), rfl⟩
      · refine j_aload_n hC dX9_wrongPlaceOfField_16 rfl (jrf_ref _) ?_
        refine j_iload_n hC dX9_wrongPlaceOfField_17 rfl ?_
        have hch := chr_le htx.2 (i := i)
        refine c_V hC kv_X9_390 dX9_wrongPlaceOfField_18 (m_J0_charAt_5068e hs9 htx (by omega)) (hxo) rfl rfl rfl rfl (by decide) (Nat.le_of_ble_eq_true rfl) ?_
        refine j_bipush (v := nI 47) hC dX9_wrongPlaceOfField_21 (by decide) ?_
        refine n_icmp_ne (tgt := 28) hC dX9_wrongPlaceOfField_23 (by decide) (by omega) (by omega) (fun c3 => ?_) (fun c3 => ?_)
        · refine j_iinc_1 (v := nI (i + 1)) hC dX9_wrongPlaceOfField_28 (nI_add _ _) (by decide) rfl ?_
          refine j_goto (tgt := 2) hC dX9_wrongPlaceOfField_31 (by decide) ?_
          exact j_M (rfl) (ih (i + 1) (by omega) (by omega) (fun j hj => by
  by_cases e9 : j = i
  · rw [e9]; exact fun e => e.elim (by assumption) (by assumption)
  · exact ha j (by omega)))
        · refine j_iload_n hC dX9_wrongPlaceOfField_26 rfl ?_
          exact j_iret hC9 rfl (rfl) dX9_wrongPlaceOfField_27 ⟨(jv (by rw [wrong_k (k := i) (by omega) (by first | exact Or.inl (by assumption) | exact Or.inr (by assumption)) ha]; rfl)), rfl⟩
set_option maxHeartbeats 4000000 in
set_option maxRecDepth 100000 in
theorem m_X9_existing {G : jG} {M : jM} {c v : Nat} {S : aSet} {P : List aSet} {V : Option aSet} {b : List Nat} {e : Option Nat} {u : Option aRun} {Z : jH} {r : Int32} (hs : (gL G).stackTraces = false) (h : cJ G M Z c v S P V b e u)  : JMet G jX9_existing [.ref c, .int r] (M) 1 6 6 (fun w M' => ∃ i, r = nI i ∧ i < (sRecs S).length ∧ M' = M ∧ ∃ p, w = some (.ref p) ∧ entR Z p (sAt S i)) (fun E M' => E = "java/lang/IndexOutOfBoundsException" ∧ M'.1 = M.1 ∧ ¬ jin r (sRecs S).length = true) := by
  refine jMet_of [some (.ref (c)), some (.int (r)), none] (by decide) rfl (Nat.le_of_ble_eq_true rfl) (rfl) hs ?_
  intro C hC9 hG
  have hC := hC9.z
  have hs9 := jOK0_tr hC
  refine j_lt (fun hlt => ?_)
  have hBg : jB C = gB G := by rw [jB, hG]
  subst hG
  obtain ⟨⟨a1, za⟩, ⟨⟨cap, hbu⟩, zb1, zbv, hv, hb120, hbc⟩, ⟨hS, zs3, zs4⟩, ⟨hVX, zv8, zv9, hVs⟩, ⟨pa, hPa⟩, ⟨ho, zo, hon⟩, ⟨⟨dX, dk, dr, dl, dch, hd⟩, zd⟩, ⟨⟨od, hod⟩, zn79⟩, ⟨hz, hkr, hBc, ⟨mk, hmk⟩⟩, hP8, hE⟩ := id h
  obtain ⟨p1, zp13, p3, p4, p5, p6⟩ := id hPa
  obtain ⟨⟨mb, bu, hb1, hb2, hb3, hb4, hb5⟩, hb6, hb7⟩ := id hbu
  obtain ⟨⟨lay, home, ff, xe, u1, u2, u5, u3, u6, u7⟩, u4⟩ := id hS
  obtain ⟨ho1, ho2, ho3, ho4, ho5⟩ := id ho
  have hn20 : (sRecs S).length ≤ 20 := u4.1.1
  have hk32 : sKeys S < 32 := u4.1.2.1
  have hp3 : sPol S < 3 := u4.1.2.2.1
  have ho10 : sOut S < 1024 := u4.1.2.2.2.1
  have hl2 : sLim S ≤ 200 := u4.1.2.2.2.2.1.2
  have hl1 : 1 ≤ sLim S := u4.1.2.2.2.2.1.1
  have hmk9 := hlt _ _ hmk
  refine j_aload_n hC dX9_existing_0 rfl (jrf_ref _) ?_
  refine j_get (v := .ref (c + 3)) hC kf_X9_19 dX9_existing_1 (a1) (rfl) ?_
  refine j_iload_n hC dX9_existing_4 rfl ?_
  by_cases hj : jin r (sRecs S).length = true
  · obtain ⟨i, hi, rfl⟩ := jin_of hj (by omega)
    refine c_V hC kv_X9_359 dX9_existing_5 (m_X5_entryAt0 (i := i) (xe := xe) hs9 u1 u2 hn20 hi (fun r hr => ⟨(u3 r hr).1, (u3 r hr).2.mono hz⟩)) (u1) rfl rfl rfl rfl (by decide) (Nat.le_of_ble_eq_true rfl) ?_
    refine j_astore_n2 hC dX9_existing_8 (jrf_ref _) (by decide) rfl ?_
    refine j_aload_n hC dX9_existing_9 rfl (jrf_ref _) ?_
    refine j_ifnonnull (tgt := 24) hC dX9_existing_10 (by decide) ?_
    refine j_aload_n hC dX9_existing_24 rfl (jrf_ref _) ?_
    exact j_aret hC9 rfl (by first | exact Or.inl ⟨_, rfl⟩ | exact Or.inr ⟨_, rfl⟩) dX9_existing_25 (⟨i, rfl, hi, rfl, xe i, rfl, (u3 i hi).2⟩) (jrf_ref _)
  · refine c_V hC kv_X9_359 dX9_existing_5 (m_X5_entryAt_n hs9 (hS.mono hz) hj) (u1) rfl rfl rfl rfl (by decide) (Nat.le_of_ble_eq_true rfl) ?_
    refine j_astore_n2 hC dX9_existing_8 jrf_null (by decide) rfl ?_
    refine j_aload_n hC dX9_existing_9 rfl jrf_null ?_
    refine c_ifnonnull0 hC dX9_existing_10 ?_
    exact j_throwSW hC9 (i := 6) rfl kt_X9_272 rfl dX9_existing_13 dX9_existing_16 dX9_existing_17 dX9_existing_20 dX9_existing_23 (by decide) (by decide) (by decide) (Nat.le_of_ble_eq_true rfl) (fun n9 => ⟨rfl, rfl, hj⟩)
set_option maxHeartbeats 4000000 in
set_option maxRecDepth 100000 in
theorem m_X9_existingPiece {G : jG} {M : jM} {c v : Nat} {S : aSet} {P : List aSet} {V : Option aSet} {b : List Nat} {e : Option Nat} {u : Option aRun} {Z : jH} {r : Int32} (hs : (gL G).stackTraces = false) (h : cJ G M Z c v S P V b e u)  : JMet G jX9_existingPiece [.ref c, .int r] (M) 1 6 7 (fun w M' => ∃ i, r = nI i ∧ i < (pIts (pEnd (sTmpl S))).length ∧ M' = M ∧ ∃ p, w = some (.ref p) ∧ pieR Z (sTmpl S) (pCos (pEnd (sTmpl S))) p (pAtI (pIts (pEnd (sTmpl S))) i)) (fun E M' => E = "java/util/NoSuchElementException" ∧ M'.1 = M.1 ∧ ¬ jin r (pIts (pEnd (sTmpl S))).length = true) := by
  refine jMet_of [some (.ref (c)), some (.int (r)), none] (by decide) rfl (Nat.le_of_ble_eq_true rfl) (rfl) hs ?_
  intro C hC9 hG
  have hC := hC9.z
  have hs9 := jOK0_tr hC
  refine j_lt (fun hlt => ?_)
  have hBg : jB C = gB G := by rw [jB, hG]
  subst hG
  obtain ⟨⟨a1, za⟩, ⟨⟨cap, hbu⟩, zb1, zbv, hv, hb120, hbc⟩, ⟨hS, zs3, zs4⟩, ⟨hVX, zv8, zv9, hVs⟩, ⟨pa, hPa⟩, ⟨ho, zo, hon⟩, ⟨⟨dX, dk, dr, dl, dch, hd⟩, zd⟩, ⟨⟨od, hod⟩, zn79⟩, ⟨hz, hkr, hBc, ⟨mk, hmk⟩⟩, hP8, hE⟩ := id h
  obtain ⟨p1, zp13, p3, p4, p5, p6⟩ := id hPa
  obtain ⟨⟨mb, bu, hb1, hb2, hb3, hb4, hb5⟩, hb6, hb7⟩ := id hbu
  obtain ⟨⟨lay, home, ff, xe, u1, u2, u5, u3, u6, u7⟩, u4⟩ := id hS
  obtain ⟨ho1, ho2, ho3, ho4, ho5⟩ := id ho
  have hn20 : (sRecs S).length ≤ 20 := u4.1.1
  have hk32 : sKeys S < 32 := u4.1.2.1
  have hp3 : sPol S < 3 := u4.1.2.2.1
  have ho10 : sOut S < 1024 := u4.1.2.2.2.1
  have hl2 : sLim S ≤ 200 := u4.1.2.2.2.2.1.2
  have hl1 : 1 ≤ sLim S := u4.1.2.2.2.2.1.1
  have hmk9 := hlt _ _ hmk
  obtain ⟨⟨lrow, lf, l1, l2, l3⟩, lle, lch, lok⟩ := id u6
  have hil := its_le lok
  refine j_aload_n hC dX9_existingPiece_0 rfl (jrf_ref _) ?_
  refine j_get (v := .ref (c + 3)) hC kf_X9_19 dX9_existingPiece_1 (a1) (rfl) ?_
  refine j_get (v := .ref (lay)) hC kf_X9_212 dX9_existingPiece_4 (u1) (rfl) ?_
  refine j_iload_n hC dX9_existingPiece_7 rfl ?_
  by_cases hj : jin r (pIts (pEnd (sTmpl S))).length = true
  · obtain ⟨i, hi, rfl⟩ := jin_of hj (by omega)
    obtain ⟨pj, hpj, hpie⟩ := l3 i hi
    refine c_V hC kv_X9_255 dX9_existingPiece_8 (m_X2_pieceAt (i := i) (p := pj) hs9 (hz _ _ l1) (hz _ _ l2) hi hil (by omega) hpj) (hz _ _ l1) rfl rfl rfl rfl (by decide) (Nat.le_of_ble_eq_true rfl) ?_
    refine j_astore_n2 hC dX9_existingPiece_11 (jrf_ref _) (by decide) rfl ?_
    refine j_aload_n hC dX9_existingPiece_12 rfl (jrf_ref _) ?_
    refine j_ifnonnull (tgt := 27) hC dX9_existingPiece_13 (by decide) ?_
    refine j_aload_n hC dX9_existingPiece_27 rfl (jrf_ref _) ?_
    exact j_aret hC9 rfl (by first | exact Or.inl ⟨_, rfl⟩ | exact Or.inr ⟨_, rfl⟩) dX9_existingPiece_28 (⟨i, rfl, hi, rfl, pj, rfl, hpie⟩) (jrf_ref _)
  · refine c_V hC kv_X9_255 dX9_existingPiece_8 (m_X2_pieceAt_n hs9 (hz _ _ l1) hj (by omega)) (hz _ _ l1) rfl rfl rfl rfl (by decide) (Nat.le_of_ble_eq_true rfl) ?_
    refine j_astore_n2 hC dX9_existingPiece_11 jrf_null (by decide) rfl ?_
    refine j_aload_n hC dX9_existingPiece_12 rfl jrf_null ?_
    refine c_ifnonnull0 hC dX9_existingPiece_13 ?_
    exact j_throwNW hC9 (i := 26) rfl rfl rfl dX9_existingPiece_16 dX9_existingPiece_19 dX9_existingPiece_20 dX9_existingPiece_23 dX9_existingPiece_26 (by decide) (by decide) (by decide) (Nat.le_of_ble_eq_true rfl) (fun n9 => ⟨rfl, rfl, hj⟩)
set_option maxHeartbeats 4000000 in
set_option maxRecDepth 100000 in
theorem m_X9_checkRun {G : jG} {M : jM} {c v : Nat} {S : aSet} {P : List aSet} {V : Option aSet} {b : List Nat} {e : Option Nat} {u : Option aRun} {Z : jH}  (hs : (gL G).stackTraces = false) (h : cJ G M Z c v S P V b e u)  : JMet G jX9_checkRun [.ref c] (M) 1 6 6 (fun w M' => w = none ∧ M' = M ∧ ∃ L, u = some L) (fun E M' => E = "java/lang/IllegalStateException" ∧ M'.1 = M.1 ∧ u = none) := by
  refine jMet_of [some (.ref (c))] (by decide) rfl (Nat.le_of_ble_eq_true rfl) (rfl) hs ?_
  intro C hC9 hG
  have hC := hC9.z
  have hs9 := jOK0_tr hC
  refine j_lt (fun hlt => ?_)
  have hBg : jB C = gB G := by rw [jB, hG]
  subst hG
  obtain ⟨⟨a1, za⟩, ⟨⟨cap, hbu⟩, zb1, zbv, hv, hb120, hbc⟩, ⟨hS, zs3, zs4⟩, ⟨hVX, zv8, zv9, hVs⟩, ⟨pa, hPa⟩, ⟨ho, zo, hon⟩, ⟨⟨dX, dk, dr, dl, dch, hd⟩, zd⟩, ⟨⟨od, hod⟩, zn79⟩, ⟨hz, hkr, hBc, ⟨mk, hmk⟩⟩, hP8, hE⟩ := id h
  obtain ⟨p1, zp13, p3, p4, p5, p6⟩ := id hPa
  obtain ⟨⟨mb, bu, hb1, hb2, hb3, hb4, hb5⟩, hb6, hb7⟩ := id hbu
  obtain ⟨⟨lay, home, ff, xe, u1, u2, u5, u3, u6, u7⟩, u4⟩ := id hS
  obtain ⟨ho1, ho2, ho3, ho4, ho5⟩ := id ho
  have hn20 : (sRecs S).length ≤ 20 := u4.1.1
  have hk32 : sKeys S < 32 := u4.1.2.1
  have hp3 : sPol S < 3 := u4.1.2.2.1
  have ho10 : sOut S < 1024 := u4.1.2.2.2.1
  have hl2 : sLim S ≤ 200 := u4.1.2.2.2.2.1.2
  have hl1 : 1 ≤ sLim S := u4.1.2.2.2.2.1.1
  have hmk9 := hlt _ _ hmk
  refine j_aload_n hC dX9_checkRun_0 rfl (jrf_ref _) ?_
  refine j_get (v := .ref (c + 14)) hC kf_X9_33 dX9_checkRun_1 (a1) (rfl) ?_
  refine j_get (v := .int (nI ((u.getD []).length))) hC kf_X9_349 dX9_checkRun_4 (ho1) (rfl) ?_
  refine n_if_ne (tgt := 21) hC dX9_checkRun_7 (by decide) (by omega) (fun c1 => ?_) (fun c1 => ?_)
  · exact j_vret hC9 rfl dX9_checkRun_21 (⟨rfl, rfl, by cases u with | none => exact absurd rfl c1 | some L => exact ⟨L, rfl⟩⟩)
  · exact j_throwSW hC9 (i := 34) rfl kt_X9_80 rfl dX9_checkRun_10 dX9_checkRun_13 dX9_checkRun_14 dX9_checkRun_17 dX9_checkRun_20 (by decide) (by decide) (by decide) (Nat.le_of_ble_eq_true rfl) (fun n9 => ⟨rfl, rfl, by cases u with | none => rfl | some L => exact absurd c1 (hon L rfl).1⟩)
set_option maxHeartbeats 4000000 in
set_option maxRecDepth 100000 in
theorem m_X9_sheetOf {G : jG} {M : jM} {c v : Nat} {S : aSet} {P : List aSet} {V : Option aSet} {b : List Nat} {e : Option Nat} {u : Option aRun} {Z : jH} {r : Int32} (hs : (gL G).stackTraces = false) (h : cJ G M Z c v S P V b e u)  : JMet G jX9_sheetOf [.ref c, .int r] (M) 2 12 7 (fun w M' => ∃ i L, u = some L ∧ r = nI i ∧ i < L.length ∧ w = some (.ref (c + 14 + 2 + 3 * i)) ∧ M' = M) (fun E M' => ∃ k, unA u r = k + 1 ∧ ["java/lang/IllegalStateException", "java/lang/IndexOutOfBoundsException"][k]? = some E ∧ M'.1 = M.1) := by
  refine jMet_of [some (.ref (c)), some (.int (r))] (by decide) rfl (Nat.le_of_ble_eq_true rfl) (rfl) hs ?_
  intro C hC9 hG
  have hC := hC9.z
  have hs9 := jOK0_tr hC
  refine j_lt (fun hlt => ?_)
  have hBg : jB C = gB G := by rw [jB, hG]
  subst hG
  obtain ⟨⟨a1, za⟩, ⟨⟨cap, hbu⟩, zb1, zbv, hv, hb120, hbc⟩, ⟨hS, zs3, zs4⟩, ⟨hVX, zv8, zv9, hVs⟩, ⟨pa, hPa⟩, ⟨ho, zo, hon⟩, ⟨⟨dX, dk, dr, dl, dch, hd⟩, zd⟩, ⟨⟨od, hod⟩, zn79⟩, ⟨hz, hkr, hBc, ⟨mk, hmk⟩⟩, hP8, hE⟩ := id h
  obtain ⟨p1, zp13, p3, p4, p5, p6⟩ := id hPa
  obtain ⟨⟨mb, bu, hb1, hb2, hb3, hb4, hb5⟩, hb6, hb7⟩ := id hbu
  obtain ⟨⟨lay, home, ff, xe, u1, u2, u5, u3, u6, u7⟩, u4⟩ := id hS
  obtain ⟨ho1, ho2, ho3, ho4, ho5⟩ := id ho
  have hn20 : (sRecs S).length ≤ 20 := u4.1.1
  have hk32 : sKeys S < 32 := u4.1.2.1
  have hp3 : sPol S < 3 := u4.1.2.2.1
  have ho10 : sOut S < 1024 := u4.1.2.2.2.1
  have hl2 : sLim S ≤ 200 := u4.1.2.2.2.2.1.2
  have hl1 : 1 ≤ sLim S := u4.1.2.2.2.2.1.1
  have hmk9 := hlt _ _ hmk
  refine j_aload_n hC dX9_sheetOf_0 rfl (jrf_ref _) ?_
  refine c_Tv (kc := 1) (ks := 6) hC9 rfl kv_X9_303 dX9_sheetOf_1 (m_X9_checkRun hs9 h) (a1) rfl rfl rfl rfl (by decide) (Nat.le_of_ble_eq_true rfl) (fun E9 M9 hx9 => ?_) ?_
  · obtain ⟨rfl, e1, rfl⟩ := hx9
    exact ⟨0, rfl, rfl, e1⟩
  intro v9 M1 h9
  obtain ⟨rfl, e9, L, rfl⟩ := h9
  refine j_M e9 ?_
  replace ho1 : M.1 (c + 14) = some (.inr (7, [.ref (c + 14 + 1), .int (nI L.length)])) := ho1
  have hL20 : L.length ≤ 20 := ho3
  refine j_iload_n hC dX9_sheetOf_4 rfl ?_
  refine j_if_lt (tgt := 19) hC dX9_sheetOf_5 (by decide) (fun c1 => ?_) (fun c1 => ?_)
  · exact j_throwSW hC9 (i := 35) rfl kt_X9_272 rfl dX9_sheetOf_19 dX9_sheetOf_22 dX9_sheetOf_23 dX9_sheetOf_26 dX9_sheetOf_29 (by decide) (by decide) (by decide) (Nat.le_of_ble_eq_true rfl) (fun n9 => ⟨1, by rw [unA_some, if_neg (by first | exact jin_n0 (by assumption) | exact jin_n1 (by omega) (by assumption) | exact jin_n3 (by omega) (by assumption))], rfl, rfl⟩)
  · refine j_iload_n hC dX9_sheetOf_8 rfl ?_
    refine j_aload_n hC dX9_sheetOf_9 rfl (jrf_ref _) ?_
    refine j_get (v := .ref (c + 14)) hC kf_X9_33 dX9_sheetOf_10 (a1) (rfl) ?_
    refine j_get (v := .int (nI (L.length))) hC kf_X9_349 dX9_sheetOf_13 (ho1) (rfl) ?_
    refine j_icmp_lt (tgt := 30) hC dX9_sheetOf_16 (by decide) (fun c2 => ?_) (fun c2 => ?_)
    · have hj : jin r L.length = true := by first | exact jin_c (n := L.length) (by omega) (by assumption) (by assumption) | exact jin_c3 (n := L.length) (by omega) (by assumption) (by assumption)
      obtain ⟨i, hi, rfl⟩ := jin_of hj (by omega)
      refine j_aload_n hC dX9_sheetOf_30 rfl (jrf_ref _) ?_
      refine j_get (v := .ref (c + 14)) hC kf_X9_33 dX9_sheetOf_31 (a1) (rfl) ?_
      refine j_get (v := .ref (c + 14 + 1)) hC kf_X9_370 dX9_sheetOf_34 (ho1) (rfl) ?_
      refine j_iload_n hC dX9_sheetOf_37 rfl ?_
      refine c_aald (i := i) (v := .ref (c + 14 + 2 + 3 * (i))) hC dX9_sheetOf_38 (ho2) rfl (by omega) (by omega) (if_pos (show i < 20 by omega)) ?_
      exact j_aret hC9 rfl (by first | exact Or.inl ⟨_, rfl⟩ | exact Or.inr ⟨_, rfl⟩) dX9_sheetOf_39 (⟨i, L, rfl, rfl, hi, rfl, rfl⟩) (jrf_ref _)
    · exact j_throwSW hC9 (i := 35) rfl kt_X9_272 rfl dX9_sheetOf_19 dX9_sheetOf_22 dX9_sheetOf_23 dX9_sheetOf_26 dX9_sheetOf_29 (by decide) (by decide) (by decide) (Nat.le_of_ble_eq_true rfl) (fun n9 => ⟨1, by rw [unA_some, if_neg (by first | exact jin_n0 (by assumption) | exact jin_n1 (by omega) (by assumption) | exact jin_n3 (by omega) (by assumption))], rfl, rfl⟩)
