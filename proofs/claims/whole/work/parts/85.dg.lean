/-! ===== the merger: calls that ask ===== -/
section IN
variable {v : Int32} {a b n : Nat}
theorem out_ge (hb : b + 1 < 2 ^ 31) (h : ¬ v < nI (b + 1)) : ¬ (nI a ≤ v ∧ v ≤ nI b) := fun e => by
  rw [Int32.lt_iff_toInt_lt, nI_toInt hb] at h
  have e2 := Int32.le_iff_toInt_le.mp e.2
  rw [nI_toInt (by omega)] at e2
  omega
theorem out_gt (hb : b < 2 ^ 31) (h : nI b < v) : ¬ (nI a ≤ v ∧ v ≤ nI b) := fun e => by
  rw [Int32.lt_iff_toInt_lt] at h
  have e2 := Int32.le_iff_toInt_le.mp e.2
  omega
theorem out_lt (h : v < nI a) : ¬ (nI a ≤ v ∧ v ≤ nI b) := fun e => by
  rw [Int32.lt_iff_toInt_lt] at h
  have e2 := Int32.le_iff_toInt_le.mp e.1
  omega
theorem in_1 (h0 : ¬ v < nI a) (h : v < nI (b + 1)) (hb : b + 1 < 2 ^ 31) : nI a ≤ v ∧ v ≤ nI b := by
  rw [Int32.lt_iff_toInt_lt] at h0 h
  rw [nI_toInt hb] at h
  rw [Int32.le_iff_toInt_le, Int32.le_iff_toInt_le, nI_toInt (n := b) (by omega)]
  omega
theorem in_2 (h0 : ¬ v < nI a) (h : v ≤ nI b) : nI a ≤ v ∧ v ≤ nI b := by
  rw [Int32.lt_iff_toInt_lt] at h0
  rw [Int32.le_iff_toInt_le] at h ⊢
  rw [Int32.le_iff_toInt_le]
  omega
theorem out_le (h : ¬ v ≤ nI b) : ¬ (nI a ≤ v ∧ v ≤ nI b) := fun e => h e.2
theorem jin_sw (hn : n < 2 ^ 31) (hn0 : 0 < n) (h : ¬ jin v n = true) : v.toInt < 0 ∨ ((n : Int) - 1) < v.toInt := by
  by_cases h0 : v < 0
  · rw [Int32.lt_iff_toInt_lt] at h0
    exact Or.inl h0
  · right
    have h1 : ¬ v < nI n := fun e => h (jin_c3 hn h0 e)
    rw [Int32.lt_iff_toInt_lt, nI_toInt hn] at h1
    omega
end IN
set_option maxHeartbeats 4000000 in
set_option maxRecDepth 100000 in
theorem m_X9_errorPosition {G : jG} {M : jM} {c v : Nat} {S : aSet} {P : List aSet} {V : Option aSet} {b : List Nat} {e : Option Nat} {u : Option aRun} {Z : jH}  (hs : (gL G).stackTraces = false) (h : cJ G M Z c v S P V b e u)  : JMet G jX9_errorPosition [.ref c] (M) 1 6 7 (COq G M Z c v opErrPos (S, P, V, b, e, u)) (COx G M Z c v (opErrPos) ["java/util/NoSuchElementException"] (S, P, V, b, e, u)) := by
  refine jMet_of [some (.ref (c))] (by decide) rfl (Nat.le_of_ble_eq_true rfl) (rfl) hs ?_
  intro C hC9 hG
  have hC := hC9.z
  have hs9 := jOK0_tr hC
  refine j_lt (fun hlt => ?_)
  have hBg : jB C = gB G := by rw [jB, hG]
  subst hG
  obtain ⟨⟨a1, za⟩, ⟨⟨cap, hbu⟩, zb1, zbv, hv, hb120, hbc⟩, ⟨hS, zs3, zs4⟩, ⟨hVX, zv8, zv9, hVs⟩, ⟨pa, hPa⟩, ⟨ho, zo, hon⟩, ⟨⟨dX, dk, dr, dl, dch, hd⟩, zd⟩, ⟨⟨od, hod⟩, zn79⟩, ⟨hz, hkr, hBc, ⟨mk, hmk⟩⟩, hP8, hE⟩ := id h
  obtain ⟨p1, zp13, p3, p4, p5, p6⟩ := id hPa
  obtain ⟨⟨mb, bu, hb1, hb2, hb3, hb4, hb5⟩, hb6, hb7⟩ := id hbu
  obtain ⟨⟨lay, home, ff, xe, u1, u2, u5, u3, u6, u7⟩, u4⟩ := id hS
  obtain ⟨ho1, ho2, ho3, ho4, ho5⟩ := id ho
  have hn20 : (sRecs S).length ≤ 20 := u4.1.1
  have hk32 : sKeys S < 32 := u4.1.2.1
  have hp3 : sPol S < 3 := u4.1.2.2.1
  have ho10 : sOut S < 1024 := u4.1.2.2.2.1
  have hl2 : sLim S ≤ 200 := u4.1.2.2.2.2.1.2
  have hl1 : 1 ≤ sLim S := u4.1.2.2.2.2.1.1
  have hmk9 := hlt _ _ hmk
  have hez := optZ_zB (x := e) (n := 121) (fun m hm => Nat.lt_succ_of_le (hE m hm))
  refine j_aload_n hC dX9_errorPosition_0 rfl (jrf_ref _) ?_
  refine j_get (v := .int (zI (optZ e))) hC kf_X9_52 dX9_errorPosition_1 (a1) (rfl) ?_
  refine z_if_ge (a := (optZ e)) (tgt := 17) hC dX9_errorPosition_4 (by decide) (by unfold zB; omega) (fun c1 => ?_) (fun c1 => ?_)
  · refine j_aload_n hC dX9_errorPosition_17 rfl (jrf_ref _) ?_
    refine j_get (v := .int (zI (optZ e))) hC kf_X9_52 dX9_errorPosition_18 (a1) (rfl) ?_
    exact j_iret hC9 rfl (rfl) dX9_errorPosition_21 (cr_of (T' := (S, P, V, b, e, u)) (err_some (by omega)) (cQ_same h rfl))
  · exact j_throwN hC9 (i := 24) rfl rfl rfl dX9_errorPosition_7 dX9_errorPosition_10 dX9_errorPosition_11 dX9_errorPosition_13 dX9_errorPosition_16 (by decide) (by decide) (by decide) (Nat.le_of_ble_eq_true rfl) (fun n9 => cx_of (k := 0) (x := nI 0) (T' := (S, P, V, b, e, u)) (err_none (by assumption)) rfl (cQ_same h rfl))
set_option maxHeartbeats 4000000 in
set_option maxRecDepth 100000 in
theorem m_X9_setting {G : jG} {M : jM} {c v : Nat} {S : aSet} {P : List aSet} {V : Option aSet} {b : List Nat} {e : Option Nat} {u : Option aRun} {Z : jH} {q : Int32} (hs : (gL G).stackTraces = false) (h : cJ G M Z c v S P V b e u)  : JMet G jX9_setting [.ref c, .int q] (M) 1 6 6 (COq G M Z c v (opSetting q) (S, P, V, b, e, u)) (COx G M Z c v (opSetting q) ["java/lang/IllegalArgumentException"] (S, P, V, b, e, u)) := by
  refine jMet_of [some (.ref (c)), some (.int (q))] (by decide) rfl (Nat.le_of_ble_eq_true rfl) (rfl) hs ?_
  intro C hC9 hG
  have hC := hC9.z
  have hs9 := jOK0_tr hC
  refine j_lt (fun hlt => ?_)
  have hBg : jB C = gB G := by rw [jB, hG]
  subst hG
  obtain ⟨⟨a1, za⟩, ⟨⟨cap, hbu⟩, zb1, zbv, hv, hb120, hbc⟩, ⟨hS, zs3, zs4⟩, ⟨hVX, zv8, zv9, hVs⟩, ⟨pa, hPa⟩, ⟨ho, zo, hon⟩, ⟨⟨dX, dk, dr, dl, dch, hd⟩, zd⟩, ⟨⟨od, hod⟩, zn79⟩, ⟨hz, hkr, hBc, ⟨mk, hmk⟩⟩, hP8, hE⟩ := id h
  obtain ⟨p1, zp13, p3, p4, p5, p6⟩ := id hPa
  obtain ⟨⟨mb, bu, hb1, hb2, hb3, hb4, hb5⟩, hb6, hb7⟩ := id hbu
  obtain ⟨⟨lay, home, ff, xe, u1, u2, u5, u3, u6, u7⟩, u4⟩ := id hS
  obtain ⟨ho1, ho2, ho3, ho4, ho5⟩ := id ho
  have hn20 : (sRecs S).length ≤ 20 := u4.1.1
  have hk32 : sKeys S < 32 := u4.1.2.1
  have hp3 : sPol S < 3 := u4.1.2.2.1
  have ho10 : sOut S < 1024 := u4.1.2.2.2.1
  have hl2 : sLim S ≤ 200 := u4.1.2.2.2.2.1.2
  have hl1 : 1 ≤ sLim S := u4.1.2.2.2.2.1.1
  have hmk9 := hlt _ _ hmk
  obtain ⟨fho, hho⟩ := u7.obj
  refine j_iload_n hC dX9_setting_0 rfl ?_
  by_cases hw : jin q 8 = true
  · obtain ⟨k, hk, rfl⟩ := jin_of hw (by decide)
    by_cases s1 : (k) = 0
    · refine j_tableIn (x := nI (k)) (tgt := 48) hC dX9_setting_1 (by rw [nI_toInt (by omega)]; omega) (by rw [nI_toInt (by omega)]; omega) (by rw [nI_toInt (by omega), s1]; rfl) (by decide) ?_
      refine j_aload_n hC dX9_setting_48 rfl (jrf_ref _) ?_
      refine j_get (v := .ref (c + 3)) hC kf_X9_19 dX9_setting_49 (a1) (rfl) ?_
      refine j_get (v := .int (nI ((sRecs S).length))) hC kf_X9_59 dX9_setting_52 (u1) (rfl) ?_
      exact j_iret hC9 rfl (rfl) dX9_setting_55 (cr_of (T' := (S, P, V, b, e, u)) (sett_0 hk (by first | (rw [(by assumption : k = 0)]; rfl) | rfl)) (cQ_same h rfl))
    by_cases s2 : (k) = 1
    · refine j_tableIn (x := nI (k)) (tgt := 56) hC dX9_setting_1 (by rw [nI_toInt (by omega)]; omega) (by rw [nI_toInt (by omega)]; omega) (by rw [nI_toInt (by omega), s2]; rfl) (by decide) ?_
      refine j_aload_n hC dX9_setting_56 rfl (jrf_ref _) ?_
      refine j_get (v := .ref (c + 3)) hC kf_X9_19 dX9_setting_57 (a1) (rfl) ?_
      refine j_get (v := .int (nI (sKeys S))) hC kf_X9_264 dX9_setting_60 (u1) (rfl) ?_
      exact j_iret hC9 rfl (rfl) dX9_setting_63 (cr_of (T' := (S, P, V, b, e, u)) (sett_0 hk (by first | (rw [(by assumption : k = 1)]; rfl) | rfl)) (cQ_same h rfl))
    by_cases s3 : (k) = 2
    · refine j_tableIn (x := nI (k)) (tgt := 64) hC dX9_setting_1 (by rw [nI_toInt (by omega)]; omega) (by rw [nI_toInt (by omega)]; omega) (by rw [nI_toInt (by omega), s3]; rfl) (by decide) ?_
      refine j_aload_n hC dX9_setting_64 rfl (jrf_ref _) ?_
      refine j_get (v := .ref (c + 3)) hC kf_X9_19 dX9_setting_65 (a1) (rfl) ?_
      refine j_get (v := .int (nI (sPol S))) hC kf_X9_269 dX9_setting_68 (u1) (rfl) ?_
      exact j_iret hC9 rfl (rfl) dX9_setting_71 (cr_of (T' := (S, P, V, b, e, u)) (sett_0 hk (by first | (rw [(by assumption : k = 2)]; rfl) | rfl)) (cQ_same h rfl))
    by_cases s4 : (k) = 3
    · refine j_tableIn (x := nI (k)) (tgt := 72) hC dX9_setting_1 (by rw [nI_toInt (by omega)]; omega) (by rw [nI_toInt (by omega)]; omega) (by rw [nI_toInt (by omega), s4]; rfl) (by decide) ?_
      refine j_aload_n hC dX9_setting_72 rfl (jrf_ref _) ?_
      refine j_get (v := .ref (c + 3)) hC kf_X9_19 dX9_setting_73 (a1) (rfl) ?_
      refine j_get (v := .int (nI (sOut S))) hC kf_X9_277 dX9_setting_76 (u1) (rfl) ?_
      exact j_iret hC9 rfl (rfl) dX9_setting_79 (cr_of (T' := (S, P, V, b, e, u)) (sett_0 hk (by first | (rw [(by assumption : k = 3)]; rfl) | rfl)) (cQ_same h rfl))
    by_cases s5 : (k) = 4
    · refine j_tableIn (x := nI (k)) (tgt := 80) hC dX9_setting_1 (by rw [nI_toInt (by omega)]; omega) (by rw [nI_toInt (by omega)]; omega) (by rw [nI_toInt (by omega), s5]; rfl) (by decide) ?_
      refine j_aload_n hC dX9_setting_80 rfl (jrf_ref _) ?_
      refine j_get (v := .ref (c + 3)) hC kf_X9_19 dX9_setting_81 (a1) (rfl) ?_
      refine j_get (v := .int (nI (sLim S))) hC kf_X9_282 dX9_setting_84 (u1) (rfl) ?_
      exact j_iret hC9 rfl (rfl) dX9_setting_87 (cr_of (T' := (S, P, V, b, e, u)) (sett_0 hk (by first | (rw [(by assumption : k = 4)]; rfl) | rfl)) (cQ_same h rfl))
    by_cases s6 : (k) = 5
    · refine j_tableIn (x := nI (k)) (tgt := 88) hC dX9_setting_1 (by rw [nI_toInt (by omega)]; omega) (by rw [nI_toInt (by omega)]; omega) (by rw [nI_toInt (by omega), s6]; rfl) (by decide) ?_
      refine j_aload_n hC dX9_setting_88 rfl (jrf_ref _) ?_
      refine j_get (v := .ref (c + 1)) hC kf_X9_10 dX9_setting_89 (a1) (rfl) ?_
      refine c_V hC kv_X9_76 dX9_setting_92 (m_J4_length_8abf5 hs9 (hb1)) (hb1) rfl rfl rfl rfl (by decide) (Nat.le_of_ble_eq_true rfl) ?_
      exact j_iret hC9 rfl (rfl) dX9_setting_95 (cr_of (T' := (S, P, V, b, e, u)) (sett_0 hk (by first | (rw [(by assumption : k = 5)]; rfl) | rfl)) (cQ_same h rfl))
    by_cases s7 : (k) = 6
    · refine j_tableIn (x := nI (k)) (tgt := 96) hC dX9_setting_1 (by rw [nI_toInt (by omega)]; omega) (by rw [nI_toInt (by omega)]; omega) (by rw [nI_toInt (by omega), s7]; rfl) (by decide) ?_
      refine j_aload_n hC dX9_setting_96 rfl (jrf_ref _) ?_
      refine j_get (v := .int (nI (P.length))) hC kf_X9_48 dX9_setting_97 (a1) (rfl) ?_
      exact j_iret hC9 rfl (rfl) dX9_setting_100 (cr_of (T' := (S, P, V, b, e, u)) (sett_0 hk (by first | (rw [(by assumption : k = 6)]; rfl) | rfl)) (cQ_same h rfl))
    by_cases s8 : (k) = 7
    · refine j_tableIn (x := nI (k)) (tgt := 101) hC dX9_setting_1 (by rw [nI_toInt (by omega)]; omega) (by rw [nI_toInt (by omega)]; omega) (by rw [nI_toInt (by omega), s8]; rfl) (by decide) ?_
      refine j_aload_n hC dX9_setting_101 rfl (jrf_ref _) ?_
      refine j_get (v := .ref (c + 3)) hC kf_X9_19 dX9_setting_102 (a1) (rfl) ?_
      refine j_get (v := .ref (home)) hC kf_X9_258 dX9_setting_105 (u1) (rfl) ?_
      refine c_V hC kv_X9_152 dX9_setting_108 (m_X8_length hs9 (u7.mono hz)) (hz _ _ hho) rfl rfl rfl rfl (by decide) (Nat.le_of_ble_eq_true rfl) ?_
      exact j_iret hC9 rfl (rfl) dX9_setting_111 (cr_of (T' := (S, P, V, b, e, u)) (sett_0 hk (by first | (rw [(by assumption : k = 7)]; rfl) | rfl)) (cQ_same h rfl))
    refine j_tableOut (x := nI (k)) (tgt := 112) hC dX9_setting_1 (by rw [nI_toInt (by omega)]; omega) (by decide) ?_
    exact (show False by omega).elim
  · refine j_tableOut (tgt := 112) hC dX9_setting_1 (jin_sw (by decide) (by decide) hw) (by decide) ?_
    exact j_throwSW hC9 (i := 32) rfl kt_X9_69 rfl dX9_setting_112 dX9_setting_115 dX9_setting_116 dX9_setting_119 dX9_setting_122 (by decide) (by decide) (by decide) (Nat.le_of_ble_eq_true rfl) (fun n9 => cx_of (k := 0) (x := nI 0) (T' := (S, P, V, b, e, u)) (sett_1 hw) rfl (cQ_same h rfl))
theorem tm_3 {S : aSet} : tmA S 3 = mskT (sTmpl S) := by
  unfold mskT tmA
  rw [if_neg (by decide), if_neg (by decide), if_neg (by decide), if_pos rfl]
set_option maxHeartbeats 4000000 in
set_option maxRecDepth 100000 in
theorem m_X9_template {G : jG} {M : jM} {c v : Nat} {S : aSet} {P : List aSet} {V : Option aSet} {b : List Nat} {e : Option Nat} {u : Option aRun} {Z : jH} {q : Int32} (hs : (gL G).stackTraces = false) (h : cJ G M Z c v S P V b e u)  : JMet G jX9_template [.ref c, .int q] (M) 1 6 6 (COq G M Z c v (opTemplate q) (S, P, V, b, e, u)) (COx G M Z c v (opTemplate q) ["java/lang/IllegalArgumentException"] (S, P, V, b, e, u)) := by
  refine jMet_of [some (.ref (c)), some (.int (q)), none] (by decide) rfl (Nat.le_of_ble_eq_true rfl) (rfl) hs ?_
  intro C hC9 hG
  have hC := hC9.z
  have hs9 := jOK0_tr hC
  refine j_lt (fun hlt => ?_)
  have hBg : jB C = gB G := by rw [jB, hG]
  subst hG
  obtain ⟨⟨a1, za⟩, ⟨⟨cap, hbu⟩, zb1, zbv, hv, hb120, hbc⟩, ⟨hS, zs3, zs4⟩, ⟨hVX, zv8, zv9, hVs⟩, ⟨pa, hPa⟩, ⟨ho, zo, hon⟩, ⟨⟨dX, dk, dr, dl, dch, hd⟩, zd⟩, ⟨⟨od, hod⟩, zn79⟩, ⟨hz, hkr, hBc, ⟨mk, hmk⟩⟩, hP8, hE⟩ := id h
  obtain ⟨p1, zp13, p3, p4, p5, p6⟩ := id hPa
  obtain ⟨⟨mb, bu, hb1, hb2, hb3, hb4, hb5⟩, hb6, hb7⟩ := id hbu
  obtain ⟨⟨lay, home, ff, xe, u1, u2, u5, u3, u6, u7⟩, u4⟩ := id hS
  obtain ⟨ho1, ho2, ho3, ho4, ho5⟩ := id ho
  have hn20 : (sRecs S).length ≤ 20 := u4.1.1
  have hk32 : sKeys S < 32 := u4.1.2.1
  have hp3 : sPol S < 3 := u4.1.2.2.1
  have ho10 : sOut S < 1024 := u4.1.2.2.2.1
  have hl2 : sLim S ≤ 200 := u4.1.2.2.2.2.1.2
  have hl1 : 1 ≤ sLim S := u4.1.2.2.2.2.1.1
  have hmk9 := hlt _ _ hmk
  obtain ⟨⟨lrow, lf, l1, l2, l3⟩, lle, lch, lok⟩ := id u6
  have hil := its_le lok
  have hil2 : (pIts (pEnd (sTmpl S))).length ≤ 120 := Nat.le_trans hil lle
  refine j_aload_n hC dX9_template_0 rfl (jrf_ref _) ?_
  refine j_get (v := .ref (c + 3)) hC kf_X9_19 dX9_template_1 (a1) (rfl) ?_
  refine j_get (v := .ref (lay)) hC kf_X9_212 dX9_template_4 (u1) (rfl) ?_
  refine j_astore_n2 hC dX9_template_7 (jrf_ref _) (by decide) rfl ?_
  refine j_iload_n hC dX9_template_8 rfl ?_
  by_cases hw : jin q 5 = true
  · obtain ⟨k, hk, rfl⟩ := jin_of hw (by decide)
    by_cases s1 : (k) = 0
    · refine j_tableIn (x := nI (k)) (tgt := 44) hC dX9_template_9 (by rw [nI_toInt (by omega)]; omega) (by rw [nI_toInt (by omega)]; omega) (by rw [nI_toInt (by omega), s1]; rfl) (by decide) ?_
      refine j_aload_n hC dX9_template_44 rfl (jrf_ref _) ?_
      refine j_get (v := .int (nI ((pIts (pEnd (sTmpl S))).length))) hC kf_X9_213 dX9_template_45 ((hz _ _ l1)) (rfl) ?_
      exact j_iret hC9 rfl (rfl) dX9_template_48 (cr_of (T' := (S, P, V, b, e, u)) (tpl_0 hk (by rw [(by assumption : k = 0)]; exact if_pos rfl)) (cQ_same h rfl))
    by_cases s2 : (k) = 1
    · refine j_tableIn (x := nI (k)) (tgt := 49) hC dX9_template_9 (by rw [nI_toInt (by omega)]; omega) (by rw [nI_toInt (by omega)]; omega) (by rw [nI_toInt (by omega), s2]; rfl) (by decide) ?_
      refine j_aload_n hC dX9_template_49 rfl (jrf_ref _) ?_
      refine j_get (v := .int (nI ((sTmpl S).length))) hC kf_X9_218 dX9_template_50 ((hz _ _ l1)) (rfl) ?_
      exact j_iret hC9 rfl (rfl) dX9_template_53 (cr_of (T' := (S, P, V, b, e, u)) (tpl_0 hk (by rw [(by assumption : k = 1)]; exact (if_neg (by decide)).trans (if_pos rfl))) (cQ_same h rfl))
    by_cases s3 : (k) = 2
    · refine j_tableIn (x := nI (k)) (tgt := 54) hC dX9_template_9 (by rw [nI_toInt (by omega)]; omega) (by rw [nI_toInt (by omega)]; omega) (by rw [nI_toInt (by omega), s3]; rfl) (by decide) ?_
      refine j_aload_n hC dX9_template_54 rfl (jrf_ref _) ?_
      refine j_get (v := .int (nI (pDeep (pEnd (sTmpl S))))) hC kf_X9_220 dX9_template_55 ((hz _ _ l1)) (rfl) ?_
      exact j_iret hC9 rfl (rfl) dX9_template_58 (cr_of (T' := (S, P, V, b, e, u)) (tpl_0 hk (by rw [(by assumption : k = 2)]; exact (if_neg (by decide)).trans ((if_neg (by decide)).trans (if_pos rfl)))) (cQ_same h rfl))
    by_cases s4 : (k) = 3
    · refine j_tableIn (x := nI (k)) (tgt := 59) hC dX9_template_9 (by rw [nI_toInt (by omega)]; omega) (by rw [nI_toInt (by omega)]; omega) (by rw [nI_toInt (by omega), s4]; rfl) (by decide) ?_
      refine j_aload_n hC dX9_template_59 rfl (jrf_ref _) ?_
      refine j_get (v := .int (nI (mskT (sTmpl S)))) hC kf_X9_223 dX9_template_60 ((hz _ _ l1)) (rfl) ?_
      exact j_iret hC9 rfl (rfl) dX9_template_63 (cr_of (T' := (S, P, V, b, e, u)) (tpl_0 hk (by rw [(by assumption : k = 3)]; exact tm_3)) (cQ_same h rfl))
    by_cases s5 : (k) = 4
    · refine j_tableIn (x := nI (k)) (tgt := 64) hC dX9_template_9 (by rw [nI_toInt (by omega)]; omega) (by rw [nI_toInt (by omega)]; omega) (by rw [nI_toInt (by omega), s5]; rfl) (by decide) ?_
      refine j_aload_n hC dX9_template_64 rfl (jrf_ref _) ?_
      refine j_get (v := .int (nI (brN (pIts (pEnd (sTmpl S)))))) hC kf_X9_226 dX9_template_65 ((hz _ _ l1)) (rfl) ?_
      exact j_iret hC9 rfl (rfl) dX9_template_68 (cr_of (T' := (S, P, V, b, e, u)) (tpl_0 hk (by rw [(by assumption : k = 4)]; exact (if_neg (by decide)).trans ((if_neg (by decide)).trans ((if_neg (by decide)).trans (if_neg (by decide)))))) (cQ_same h rfl))
    refine j_tableOut (x := nI (k)) (tgt := 69) hC dX9_template_9 (by rw [nI_toInt (by omega)]; omega) (by decide) ?_
    exact (show False by omega).elim
  · refine j_tableOut (tgt := 69) hC dX9_template_9 (jin_sw (by decide) (by decide) hw) (by decide) ?_
    exact j_throwS hC9 (i := 25) rfl kt_X9_69 rfl dX9_template_69 dX9_template_72 dX9_template_73 dX9_template_75 dX9_template_78 (by decide) (by decide) (by decide) (Nat.le_of_ble_eq_true rfl) (fun n9 => cx_of (k := 0) (x := nI 0) (T' := (S, P, V, b, e, u)) (tpl_1 hw) rfl (cQ_same h rfl))
set_option maxHeartbeats 4000000 in
set_option maxRecDepth 100000 in
theorem m_X9_item {G : jG} {M : jM} {c v : Nat} {S : aSet} {P : List aSet} {V : Option aSet} {b : List Nat} {e : Option Nat} {u : Option aRun} {Z : jH} {q r : Int32} (hs : (gL G).stackTraces = false) (h : cJ G M Z c v S P V b e u)  : JMet G jX9_item [.ref c, .int q, .int r] (M) 2 12 8 (COq G M Z c v (opItem q r) (S, P, V, b, e, u)) (COx G M Z c v (opItem q r) ["java/util/NoSuchElementException", "java/lang/IllegalArgumentException"] (S, P, V, b, e, u)) := by
  refine jMet_of [some (.ref (c)), some (.int (q)), some (.int (r)), none] (by decide) rfl (Nat.le_of_ble_eq_true rfl) (rfl) hs ?_
  intro C hC9 hG
  have hC := hC9.z
  have hs9 := jOK0_tr hC
  refine j_lt (fun hlt => ?_)
  have hBg : jB C = gB G := by rw [jB, hG]
  subst hG
  obtain ⟨⟨a1, za⟩, ⟨⟨cap, hbu⟩, zb1, zbv, hv, hb120, hbc⟩, ⟨hS, zs3, zs4⟩, ⟨hVX, zv8, zv9, hVs⟩, ⟨pa, hPa⟩, ⟨ho, zo, hon⟩, ⟨⟨dX, dk, dr, dl, dch, hd⟩, zd⟩, ⟨⟨od, hod⟩, zn79⟩, ⟨hz, hkr, hBc, ⟨mk, hmk⟩⟩, hP8, hE⟩ := id h
  obtain ⟨p1, zp13, p3, p4, p5, p6⟩ := id hPa
  obtain ⟨⟨mb, bu, hb1, hb2, hb3, hb4, hb5⟩, hb6, hb7⟩ := id hbu
  obtain ⟨⟨lay, home, ff, xe, u1, u2, u5, u3, u6, u7⟩, u4⟩ := id hS
  obtain ⟨ho1, ho2, ho3, ho4, ho5⟩ := id ho
  have hn20 : (sRecs S).length ≤ 20 := u4.1.1
  have hk32 : sKeys S < 32 := u4.1.2.1
  have hp3 : sPol S < 3 := u4.1.2.2.1
  have ho10 : sOut S < 1024 := u4.1.2.2.2.1
  have hl2 : sLim S ≤ 200 := u4.1.2.2.2.2.1.2
  have hl1 : 1 ≤ sLim S := u4.1.2.2.2.2.1.1
  have hmk9 := hlt _ _ hmk
  obtain ⟨⟨lrow, lf, l1, l2, l3⟩, lle, lch, lok⟩ := id u6
  have hil := its_le lok
  have hil2 : (pIts (pEnd (sTmpl S))).length ≤ 120 := Nat.le_trans hil lle
  refine j_aload_n hC dX9_item_0 rfl (jrf_ref _) ?_
  refine j_iload_n hC dX9_item_1 rfl ?_
  refine c_Tv (kc := 1) (ks := 6) hC9 rfl kv_X9_231 dX9_item_2 (m_X9_existingPiece (r := q) hs9 h) (a1) rfl rfl rfl rfl (by decide) (Nat.le_of_ble_eq_true rfl) (fun E9 M9 hx9 => ?_) ?_
  · obtain ⟨rfl, e9, hno⟩ := hx9
    exact cx_of (k := 0) (x := nI 0) (T' := (S, P, V, b, e, u)) (itm_1 hno) rfl (cQ_same h e9)
  intro v9 M1 h9
  obtain ⟨j, rfl, hj, e9, pp, rfl, hpie⟩ := h9
  refine j_M e9 ?_
  clear e9
  obtain ⟨ps, pq, pcn, w1, w2, w3, w4⟩ := id hpie
  refine j_astore_n3 hC dX9_item_5 (jrf_ref _) (by decide) rfl ?_
  refine j_iload_n hC dX9_item_6 rfl ?_
  by_cases hw : jin r 4 = true
  · obtain ⟨k, hk, rfl⟩ := jin_of hw (by decide)
    by_cases s1 : (k) = 0
    · refine j_tableIn (x := nI (k)) (tgt := 36) hC dX9_item_7 (by rw [nI_toInt (by omega)]; omega) (by rw [nI_toInt (by omega)]; omega) (by rw [nI_toInt (by omega), s1]; rfl) (by decide) ?_
      refine j_aload_n hC dX9_item_36 rfl (jrf_ref _) ?_
      refine j_get (v := .int (nI (iKind (pAtI (pIts (pEnd (sTmpl S))) j)))) hC kf_X9_235 dX9_item_37 ((hz _ _ w1)) (rfl) ?_
      exact j_iret hC9 rfl (rfl) dX9_item_40 (cr_of (T' := (S, P, V, b, e, u)) (itm_0 hj hil2 hk (by rw [(by assumption : k = 0)]; rfl)) (cQ_same h rfl))
    by_cases s2 : (k) = 1
    · refine j_tableIn (x := nI (k)) (tgt := 41) hC dX9_item_7 (by rw [nI_toInt (by omega)]; omega) (by rw [nI_toInt (by omega)]; omega) (by rw [nI_toInt (by omega), s2]; rfl) (by decide) ?_
      refine j_aload_n hC dX9_item_41 rfl (jrf_ref _) ?_
      refine j_get (v := .int (nI (iPlace (pAtI (pIts (pEnd (sTmpl S))) j)))) hC kf_X9_240 dX9_item_42 ((hz _ _ w1)) (rfl) ?_
      exact j_iret hC9 rfl (rfl) dX9_item_45 (cr_of (T' := (S, P, V, b, e, u)) (itm_0 hj hil2 hk (by rw [(by assumption : k = 1)]; rfl)) (cQ_same h rfl))
    by_cases s3 : (k) = 2
    · refine j_tableIn (x := nI (k)) (tgt := 46) hC dX9_item_7 (by rw [nI_toInt (by omega)]; omega) (by rw [nI_toInt (by omega)]; omega) (by rw [nI_toInt (by omega), s3]; rfl) (by decide) ?_
      refine j_aload_n hC dX9_item_46 rfl (jrf_ref _) ?_
      refine j_get (v := .int (nI ((iPath (pAtI (pIts (pEnd (sTmpl S))) j)).length))) hC kf_X9_243 dX9_item_47 ((hz _ _ w1)) (rfl) ?_
      exact j_iret hC9 rfl (rfl) dX9_item_50 (cr_of (T' := (S, P, V, b, e, u)) (itm_0 hj hil2 hk (by rw [(by assumption : k = 2)]; rfl)) (cQ_same h rfl))
    by_cases s4 : (k) = 3
    · refine j_tableIn (x := nI (k)) (tgt := 51) hC dX9_item_7 (by rw [nI_toInt (by omega)]; omega) (by rw [nI_toInt (by omega)]; omega) (by rw [nI_toInt (by omega), s4]; rfl) (by decide) ?_
      refine j_aload_n hC dX9_item_51 rfl (jrf_ref _) ?_
      refine j_get (v := .int (zI (optZ (iPath (pAtI (pIts (pEnd (sTmpl S))) j)).head?))) hC kf_X9_246 dX9_item_52 ((hz _ _ w1)) (rfl) ?_
      exact j_iret hC9 rfl (rfl) dX9_item_55 (cr_of (T' := (S, P, V, b, e, u)) (itm_0 hj hil2 hk (by rw [(by assumption : k = 3)]; rfl)) (cQ_same h rfl))
    refine j_tableOut (x := nI (k)) (tgt := 56) hC dX9_item_7 (by rw [nI_toInt (by omega)]; omega) (by decide) ?_
    exact (show False by omega).elim
  · refine j_tableOut (tgt := 56) hC dX9_item_7 (jin_sw (by decide) (by decide) hw) (by decide) ?_
    exact j_throwS hC9 (i := 27) rfl kt_X9_69 rfl dX9_item_56 dX9_item_59 dX9_item_60 dX9_item_62 dX9_item_65 (by decide) (by decide) (by decide) (Nat.le_of_ble_eq_true rfl) (fun n9 => cx_of (k := 1) (x := nI 0) (T' := (S, P, V, b, e, u)) (itm_2 (by rw [jin_nI (by omega)]; exact decide_eq_true hj) hw) rfl (cQ_same h rfl))
set_option maxHeartbeats 4000000 in
set_option maxRecDepth 100000 in
theorem m_X9_record {G : jG} {M : jM} {c v : Nat} {S : aSet} {P : List aSet} {V : Option aSet} {b : List Nat} {e : Option Nat} {u : Option aRun} {Z : jH} {q r : Int32} (hs : (gL G).stackTraces = false) (h : cJ G M Z c v S P V b e u)  : JMet G jX9_record [.ref c, .int q, .int r] (M) 2 12 8 (COq G M Z c v (opRecord q r) (S, P, V, b, e, u)) (COx G M Z c v (opRecord q r) ["java/lang/IndexOutOfBoundsException", "java/lang/IllegalArgumentException"] (S, P, V, b, e, u)) := by
  refine jMet_of [some (.ref (c)), some (.int (q)), some (.int (r)), none] (by decide) rfl (Nat.le_of_ble_eq_true rfl) (rfl) hs ?_
  intro C hC9 hG
  have hC := hC9.z
  have hs9 := jOK0_tr hC
  refine j_lt (fun hlt => ?_)
  have hBg : jB C = gB G := by rw [jB, hG]
  subst hG
  obtain ⟨⟨a1, za⟩, ⟨⟨cap, hbu⟩, zb1, zbv, hv, hb120, hbc⟩, ⟨hS, zs3, zs4⟩, ⟨hVX, zv8, zv9, hVs⟩, ⟨pa, hPa⟩, ⟨ho, zo, hon⟩, ⟨⟨dX, dk, dr, dl, dch, hd⟩, zd⟩, ⟨⟨od, hod⟩, zn79⟩, ⟨hz, hkr, hBc, ⟨mk, hmk⟩⟩, hP8, hE⟩ := id h
  obtain ⟨p1, zp13, p3, p4, p5, p6⟩ := id hPa
  obtain ⟨⟨mb, bu, hb1, hb2, hb3, hb4, hb5⟩, hb6, hb7⟩ := id hbu
  obtain ⟨⟨lay, home, ff, xe, u1, u2, u5, u3, u6, u7⟩, u4⟩ := id hS
  obtain ⟨ho1, ho2, ho3, ho4, ho5⟩ := id ho
  have hn20 : (sRecs S).length ≤ 20 := u4.1.1
  have hk32 : sKeys S < 32 := u4.1.2.1
  have hp3 : sPol S < 3 := u4.1.2.2.1
  have ho10 : sOut S < 1024 := u4.1.2.2.2.1
  have hl2 : sLim S ≤ 200 := u4.1.2.2.2.2.1.2
  have hl1 : 1 ≤ sLim S := u4.1.2.2.2.2.1.1
  have hmk9 := hlt _ _ hmk
  refine j_aload_n hC dX9_record_0 rfl (jrf_ref _) ?_
  refine j_iload_n hC dX9_record_1 rfl ?_
  refine c_Tv (kc := 1) (ks := 6) hC9 rfl kv_X9_112 dX9_record_2 (m_X9_existing (r := q) hs9 h) (a1) rfl rfl rfl rfl (by decide) (Nat.le_of_ble_eq_true rfl) (fun E9 M9 hx9 => ?_) ?_
  · obtain ⟨rfl, e9, hno⟩ := hx9
    exact cx_of (k := 0) (x := nI 0) (T' := (S, P, V, b, e, u)) (rcd_1 hno) rfl (cQ_same h e9)
  intro v9 M1 h9
  obtain ⟨i, rfl, hi, e9, p, rfl, ep⟩ := h9
  refine j_M e9 ?_
  clear e9
  obtain ⟨bp, op⟩ := ep.obj
  refine j_astore_n3 hC dX9_record_5 (jrf_ref _) (by decide) rfl ?_
  refine j_iload_n hC dX9_record_6 rfl ?_
  by_cases hw : jin r 4 = true
  · obtain ⟨k, hk, rfl⟩ := jin_of hw (by decide)
    by_cases s1 : (k) = 0
    · refine j_tableIn (x := nI (k)) (tgt := 36) hC dX9_record_7 (by rw [nI_toInt (by omega)]; omega) (by rw [nI_toInt (by omega)]; omega) (by rw [nI_toInt (by omega), s1]; rfl) (by decide) ?_
      refine j_aload_n hC dX9_record_36 rfl (jrf_ref _) ?_
      refine j_get (v := .int (nI ((sAt S i).1))) hC kf_X9_166 dX9_record_37 ((hz _ _ op)) (rfl) ?_
      exact j_iret hC9 rfl (rfl) dX9_record_40 (cr_of (T' := (S, P, V, b, e, u)) (rcd_0 hi hn20 hk (by rw [(by assumption : k = 0)]; rfl)) (cQ_same h rfl))
    by_cases s2 : (k) = 1
    · refine j_tableIn (x := nI (k)) (tgt := 41) hC dX9_record_7 (by rw [nI_toInt (by omega)]; omega) (by rw [nI_toInt (by omega)]; omega) (by rw [nI_toInt (by omega), s2]; rfl) (by decide) ?_
      refine j_aload_n hC dX9_record_41 rfl (jrf_ref _) ?_
      refine j_get (v := .int (nI ((sAt S i).2.1))) hC kf_X9_163 dX9_record_42 ((hz _ _ op)) (rfl) ?_
      exact j_iret hC9 rfl (rfl) dX9_record_45 (cr_of (T' := (S, P, V, b, e, u)) (rcd_0 hi hn20 hk (by rw [(by assumption : k = 1)]; rfl)) (cQ_same h rfl))
    by_cases s3 : (k) = 2
    · refine j_tableIn (x := nI (k)) (tgt := 46) hC dX9_record_7 (by rw [nI_toInt (by omega)]; omega) (by rw [nI_toInt (by omega)]; omega) (by rw [nI_toInt (by omega), s3]; rfl) (by decide) ?_
      refine j_aload_n hC dX9_record_46 rfl (jrf_ref _) ?_
      refine c_V hC kv_X9_178 dX9_record_47 (m_X1_filledFields hs9 (ep.mono hz)) ((hz _ _ op)) rfl rfl rfl rfl (by decide) (Nat.le_of_ble_eq_true rfl) ?_
      exact j_iret hC9 rfl (rfl) dX9_record_50 (cr_of (T' := (S, P, V, b, e, u)) (rcd_0 hi hn20 hk (by rw [(by assumption : k = 2)]; rfl)) (cQ_same h rfl))
    by_cases s4 : (k) = 3
    · refine j_tableIn (x := nI (k)) (tgt := 51) hC dX9_record_7 (by rw [nI_toInt (by omega)]; omega) (by rw [nI_toInt (by omega)]; omega) (by rw [nI_toInt (by omega), s4]; rfl) (by decide) ?_
      refine j_aload_n hC dX9_record_51 rfl (jrf_ref _) ?_
      refine j_get (v := .ref (c + 3)) hC kf_X9_19 dX9_record_52 (a1) (rfl) ?_
      refine j_aload_n hC dX9_record_55 rfl (jrf_ref _) ?_
      refine c_V hC kv_X9_181 dX9_record_56 (m_X5_addressFields hs9 (hS.mono hz) (ep.mono hz)) (u1) rfl rfl rfl rfl (by decide) (Nat.le_of_ble_eq_true rfl) ?_
      refine c_S hC ks_X9_185 rfl dX9_record_59 (m_J6_bitCount_0f7a4 hs9 amask_32) rfl rfl (by decide) (Nat.le_of_ble_eq_true rfl) ?_
      exact j_iret hC9 rfl (rfl) dX9_record_62 (cr_of (T' := (S, P, V, b, e, u)) (rcd_0 hi hn20 hk (by rw [(by assumption : k = 3)]; exact congrArg nI popc_amask.symm)) (cQ_same h rfl))
    refine j_tableOut (x := nI (k)) (tgt := 63) hC dX9_record_7 (by rw [nI_toInt (by omega)]; omega) (by decide) ?_
    exact (show False by omega).elim
  · refine j_tableOut (tgt := 63) hC dX9_record_7 (jin_sw (by decide) (by decide) hw) (by decide) ?_
    exact j_throwS hC9 (i := 17) rfl kt_X9_69 rfl dX9_record_63 dX9_record_66 dX9_record_67 dX9_record_69 dX9_record_72 (by decide) (by decide) (by decide) (Nat.le_of_ble_eq_true rfl) (fun n9 => cx_of (k := 1) (x := nI 0) (T' := (S, P, V, b, e, u)) (rcd_2 (by rw [jin_nI (by omega)]; exact decide_eq_true hi) hw) rfl (cQ_same h rfl))
