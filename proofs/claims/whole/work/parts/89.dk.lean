/-! ===== the merger: fields, letters, undo, snapshot ===== -/
section M1
variable {v : Int32} {n : Nat}
theorem m1_in (hn : n < 2 ^ 31) (h0 : ¬ v < zI (-1)) (h1 : ¬ v = zI (-1)) (h2 : v < nI n) : jin v n = true := by
  refine jin_c3 hn (fun e => ?_) h2
  rw [Int32.lt_iff_toInt_lt] at e h0
  have e1 : (zI (-1)).toInt = -1 := by decide
  have e2 : (0 : Int32).toInt = 0 := by decide
  rw [e1] at h0
  rw [e2] at e
  exact h1 (Int32.toInt_inj.mp (by rw [e1]; omega))
theorem m1_no1 (h : v < zI (-1)) : ¬ (v = -1 ∨ jin v n = true) := by
  rw [Int32.lt_iff_toInt_lt] at h
  have e1 : (zI (-1)).toInt = -1 := by decide
  have e2 : (0 : Int32).toInt = 0 := by decide
  rw [e1] at h
  rintro (e | e)
  · rw [e] at h
    exact absurd h (by decide)
  · exact jin_n0 (by rw [Int32.lt_iff_toInt_lt, e2]; omega) e
theorem m1_no2 (hn : n < 2 ^ 31) (h : ¬ v < nI n) : ¬ (v = -1 ∨ jin v n = true) := by
  rintro (e | e)
  · refine h ?_
    rw [Int32.lt_iff_toInt_lt, nI_toInt hn, e]
    have e1 : (-1 : Int32).toInt = -1 := by decide
    rw [e1]
    omega
  · exact jin_n3 hn h e
theorem m1_eq (h : v = zI (-1)) : v = -1 ∨ jin v n = true := Or.inl h
theorem m1_lt (h : v = zI (-1)) : v < 0 := by rw [h]; decide
theorem jin_le (hn : n + 1 < 2 ^ 31) (h0 : ¬ v < 0) (h : v ≤ nI n) : jin v (n + 1) = true := by
  refine jin_c2 hn h0 (fun e => ?_)
  rw [Int32.lt_iff_toInt_lt] at e
  rw [Int32.le_iff_toInt_le] at h
  omega
theorem jin_nle (hn : n + 1 < 2 ^ 31) (h : ¬ v ≤ nI n) : ¬ jin v (n + 1) = true := by
  refine jin_n2 hn ?_
  rw [Int32.le_iff_toInt_le] at h
  rw [Int32.lt_iff_toInt_lt]
  omega
end M1
set_option maxHeartbeats 4000000 in
set_option maxRecDepth 100000 in
theorem m_X9_setField {G : jG} {M : jM} {c v : Nat} {S : aSet} {P : List aSet} {V : Option aSet} {b : List Nat} {e : Option Nat} {u : Option aRun} {Z : jH} {q r : Int32} (hs : (gL G).stackTraces = false) (h : cJ G M Z c v S P V b e u)  : JMet G jX9_setField [.ref c, .int q, .int r] (M) 7 151 9 (COq G M Z c v (opSetFld q r) (S, P, V, b, e, u)) (COx G M Z c v (opSetFld q r) ["java/lang/IndexOutOfBoundsException", "java/lang/IllegalArgumentException"] (S, P, V, b, e, u)) := by
  refine jMet_of [some (.ref (c)), some (.int (q)), some (.int (r)), none, none] (by decide) rfl (Nat.le_of_ble_eq_true rfl) (rfl) hs ?_
  intro C hC9 hG
  have hC := hC9.z
  have hs9 := jOK0_tr hC
  refine j_lt (fun hlt => ?_)
  have hBg : jB C = gB G := by rw [jB, hG]
  subst hG
  obtain ⟨⟨a1, za⟩, ⟨⟨cap, hbu⟩, zb1, zbv, hv, hb120, hbc⟩, ⟨hS, zs3, zs4⟩, ⟨hVX, zv8, zv9, hVs⟩, ⟨pa, hPa⟩, ⟨ho, zo, hon⟩, ⟨⟨dX, dk, dr, dl, dch, hd⟩, zd⟩, ⟨⟨od, hod⟩, zn79⟩, ⟨hz, hkr, hBc, ⟨mk, hmk⟩⟩, hP8, hE⟩ := id h
  obtain ⟨p1, zp13, p3, p4, p5, p6⟩ := id hPa
  obtain ⟨⟨mb, bu, hb1, hb2, hb3, hb4, hb5⟩, hb6, hb7⟩ := id hbu
  obtain ⟨⟨lay, home, ff, xe, u1, u2, u5, u3, u6, u7⟩, u4⟩ := id hS
  obtain ⟨ho1, ho2, ho3, ho4, ho5⟩ := id ho
  have hn20 : (sRecs S).length ≤ 20 := u4.1.1
  have hk32 : sKeys S < 32 := u4.1.2.1
  have hp3 : sPol S < 3 := u4.1.2.2.1
  have ho10 : sOut S < 1024 := u4.1.2.2.2.1
  have hl2 : sLim S ≤ 200 := u4.1.2.2.2.2.1.2
  have hl1 : 1 ≤ sLim S := u4.1.2.2.2.2.1.1
  have hmk9 := hlt _ _ hmk
  refine j_aload_n hC dX9_setField_0 rfl (jrf_ref _) ?_
  refine j_iload_n hC dX9_setField_1 rfl ?_
  refine c_Tv (kc := 6) (ks := 145) hC9 rfl kv_X9_112 dX9_setField_2 (m_X9_existing (r := q) hs9 h) (a1) rfl rfl rfl rfl (by decide) (Nat.le_of_ble_eq_true rfl) (fun E9 M9 hx9 => ?_) ?_
  · obtain ⟨rfl, e9, hno⟩ := hx9
    exact cx_of (k := 0) (x := nI 0) (T' := (S, P, V, b, e, u)) (sfl_1 (fun e8 => hno e8.1)) rfl (cQ_same h e9)
  intro v9 M1 h9
  obtain ⟨i, rfl, hi, e9, p, rfl, ep⟩ := h9
  refine j_M e9 ?_
  clear e9
  obtain ⟨bp, op⟩ := ep.obj
  refine j_astore_n3 hC dX9_setField_5 (jrf_ref _) (by decide) rfl ?_
  refine j_iload_n hC dX9_setField_6 rfl ?_
  refine c_Ts (kc := 5) (ks := 139) hC9 rfl ks_X9_129 rfl dX9_setField_7 (m_X9_checkField (f := r) hs9) rfl rfl (by decide) (Nat.le_of_ble_eq_true rfl) (fun E9 M9 hx9 => ?_) ?_
  · obtain ⟨rfl, e9, hno⟩ := hx9
    exact cx_of (k := 0) (x := nI 0) (T' := (S, P, V, b, e, u)) (sfl_1 (fun e8 => hno e8.2)) rfl (cQ_same h e9)
  intro v9 M1 h9
  obtain ⟨rfl, e9, hjf⟩ := h9
  refine j_M e9 ?_
  clear e9
  obtain ⟨f, hf, rfl⟩ := jin_of hjf (by decide)
  refine j_aload_n hC dX9_setField_10 rfl (jrf_ref _) ?_
  refine c_Tv (kc := 2) (ks := 8) hC9 rfl kv_X9_136 dX9_setField_11 (m_X9_takeFieldText hs9 h) (a1) rfl rfl rfl rfl (by decide) (Nat.le_of_ble_eq_true rfl) (fun E9 M9 hx9 => ?_) ?_
  · obtain ⟨rfl, k, hk, Z2, hJ2, hg2, hk2⟩ := hx9
    exact cx_of (k := 1) (x := nI 0) (T' := (S, P, V, [], some k, u)) (sfl_2 (T := (S, P, V, b, e, u)) hi hn20 hf hk) rfl ⟨Z2, v, hJ2, hk2.wk (fun a (e9 : a = c ∨ a = c + 1) => (show _ ∨ _ from by omega)), Or.inl rfl, hg2.2⟩
  intro v9 M0 h9
  obtain ⟨px, Z1, rfl, hno, hJ0, hg0, htp, hk0⟩ := h9
  have hbw := wrong_ok hno
  have hbc0 := hbc
  have ep1 := ep.mono hg0.1
  obtain ⟨⟨b1, x1t, o1, o2, o3⟩, o4⟩ := id ep1
  refine j_lt (fun hlt0 => ?_)
  obtain ⟨⟨a1, za⟩, ⟨⟨cap, hbu⟩, zb1, zbv, hv, hb120, hbc⟩, ⟨hS, zs3, zs4⟩, ⟨hVX, zv8, zv9, hVs⟩, ⟨pa, hPa⟩, ⟨ho, zo, hon⟩, ⟨⟨dX, dk, dr, dl, dch, hd⟩, zd⟩, ⟨⟨od, hod⟩, zn79⟩, ⟨hz, hkr, hBc, ⟨mk, hmk⟩⟩, hP8, hE⟩ := id hJ0
  obtain ⟨p1, zp13, p3, p4, p5, p6⟩ := id hPa
  obtain ⟨⟨mb, bu, hb1, hb2, hb3, hb4, hb5⟩, hb6, hb7⟩ := id hbu
  obtain ⟨⟨lay, home, ff, xe, u1, u2, u5, u3, u6, u7⟩, u4⟩ := id hS
  obtain ⟨ho1, ho2, ho3, ho4, ho5⟩ := id ho
  have hn20 : (sRecs S).length ≤ 20 := u4.1.1
  have hk32 : sKeys S < 32 := u4.1.2.1
  have hp3 : sPol S < 3 := u4.1.2.2.1
  have ho10 : sOut S < 1024 := u4.1.2.2.2.1
  have hl2 : sLim S ≤ 200 := u4.1.2.2.2.2.1.2
  have hl1 : 1 ≤ sLim S := u4.1.2.2.2.2.1.1
  have hmk9 := hlt0 _ _ hmk
  refine j_astore_4 hC dX9_setField_14 (jrf_ref _) (by decide) rfl ?_
  refine j_aload_n hC dX9_setField_16 rfl (jrf_ref _) ?_
  refine c_Pv (kc := 2) (ks := 8) hC kv_X9_100 dX9_setField_17 (m_X9_remember hs9 hJ0) (a1) rfl rfl rfl rfl (by decide) (Nat.le_of_ble_eq_true rfl) ?_
  intro v9 M1 h9
  obtain ⟨rfl, hJ1, hk1⟩ := h9
  refine j_lt (fun hlt1 => ?_)
  obtain ⟨⟨a1, za⟩, ⟨⟨cap, hbu⟩, zb1, zbv, hv, hb120, hbc⟩, ⟨hS, zs3, zs4⟩, ⟨hVX, zv8, zv9, hVs⟩, ⟨pa, hPa⟩, ⟨ho, zo, hon⟩, ⟨⟨dX, dk, dr, dl, dch, hd⟩, zd⟩, ⟨⟨od, hod⟩, zn79⟩, ⟨hz, hkr, hBc, ⟨mk, hmk⟩⟩, hP8, hE⟩ := id hJ1
  obtain ⟨p1, zp13, p3, p4, p5, p6⟩ := id hPa
  obtain ⟨⟨mb, bu, hb1, hb2, hb3, hb4, hb5⟩, hb6, hb7⟩ := id hbu
  obtain ⟨⟨lay, home, ff, xe, u1, u2, u5, u3, u6, u7⟩, u4⟩ := id hS
  obtain ⟨ho1, ho2, ho3, ho4, ho5⟩ := id ho
  have hn20 : (sRecs S).length ≤ 20 := u4.1.1
  have hk32 : sKeys S < 32 := u4.1.2.1
  have hp3 : sPol S < 3 := u4.1.2.2.1
  have ho10 : sOut S < 1024 := u4.1.2.2.2.1
  have hl2 : sLim S ≤ 200 := u4.1.2.2.2.2.1.2
  have hl1 : 1 ≤ sLim S := u4.1.2.2.2.2.1.1
  have hmk9 := hlt1 _ _ hmk
  refine j_aload_n hC dX9_setField_20 rfl (jrf_ref _) ?_
  refine j_get (v := .ref (c + 3)) hC kf_X9_19 dX9_setField_21 (a1) (rfl) ?_
  refine j_iload_n hC dX9_setField_24 rfl ?_
  refine j_aload_n hC dX9_setField_25 rfl (jrf_ref _) ?_
  refine j_iload_n hC dX9_setField_26 rfl ?_
  refine j_aload hC dX9_setField_27 rfl (jrf_ref _) ?_
  refine c_Pv (kc := 0) (ks := 0) hC kv_X9_140 dX9_setField_29 (m_X1_withText (p := px) (f := f) (t := b) (q := sAt S i) hs9 (hz _ _ o1) (hz _ _ o2) (fun f hf => (o3 f hf).mono hz) (htp.mono hz) hf (by omega)) (hz _ _ o1) rfl rfl rfl rfl (by decide) (Nat.le_of_ble_eq_true rfl) ?_
  intro v9 M3 h9
  obtain ⟨rfl, x1, x2, x4, x5⟩ := h9
  have hk3 : kept M1 M3 (fun _ => False) := fun a o ha _ => x4 a o ha
  have q1 := zadd_N (M := M1) (Z := Z1) (H := M3.1) (k := 2) hz hlt1
  have q0 : zg M1 Z1 (zadd Z1 M3.1 M1.2 2) := ⟨(q1.ex hlt1).1, (q1.ex hlt1).2⟩
  have hz3 : sub (zadd Z1 M3.1 M1.2 2) M3.1 := zadd_sub (fun a o ha => hk3 a o (hz a o ha) id)
  have hJ3 := hJ1.more q0 hz3 hk3
  have hent : entR (zadd Z1 M3.1 M1.2 2) (M1.2 + 1) (setFld (sAt S i) f b) := ⟨⟨M1.2, fun j => if j = f then px else x1t j, (zadd_in (by omega) (by omega)).trans x1, (zadd_in (by omega) (by omega)).trans x2, fun g hg => by
    show txtR _ (if g = f then px else x1t g) (if g = f then b else (sAt S i).2.2 g)
    by_cases e9 : g = f
    · rw [if_pos e9, if_pos e9]; exact htp.mono q0.1
    · rw [if_neg e9, if_neg e9]; exact (o3 g hg).mono q0.1⟩, ⟨o4.1, o4.2.1, fun g hg => by
    show (if g = f then b else (sAt S i).2.2 g).length ≤ 12 ∧ ∀ x ∈ (if g = f then b else (sAt S i).2.2 g), 32 ≤ x ∧ x ≤ 126
    by_cases e9 : g = f
    · rw [if_pos e9]; exact ⟨hbw.1, hbc0⟩
    · rw [if_neg e9]; exact o4.2.2 g hg⟩⟩
  generalize hZ2 : zadd Z1 M3.1 M1.2 2 = Z2 at q0 q1 hz3 hJ3 hent
  refine j_lt (fun hlt3 => ?_)
  obtain ⟨⟨a1, za⟩, ⟨⟨cap, hbu⟩, zb1, zbv, hv, hb120, hbc⟩, ⟨hS, zs3, zs4⟩, ⟨hVX, zv8, zv9, hVs⟩, ⟨pa, hPa⟩, ⟨ho, zo, hon⟩, ⟨⟨dX, dk, dr, dl, dch, hd⟩, zd⟩, ⟨⟨od, hod⟩, zn79⟩, ⟨hz, hkr, hBc, ⟨mk, hmk⟩⟩, hP8, hE⟩ := id hJ3
  obtain ⟨p1, zp13, p3, p4, p5, p6⟩ := id hPa
  obtain ⟨⟨mb, bu, hb1, hb2, hb3, hb4, hb5⟩, hb6, hb7⟩ := id hbu
  obtain ⟨⟨lay, home, ff, xe, u1, u2, u5, u3, u6, u7⟩, u4⟩ := id hS
  obtain ⟨ho1, ho2, ho3, ho4, ho5⟩ := id ho
  have hn20 : (sRecs S).length ≤ 20 := u4.1.1
  have hk32 : sKeys S < 32 := u4.1.2.1
  have hp3 : sPol S < 3 := u4.1.2.2.1
  have ho10 : sOut S < 1024 := u4.1.2.2.2.1
  have hl2 : sLim S ≤ 200 := u4.1.2.2.2.2.1.2
  have hl1 : 1 ≤ sLim S := u4.1.2.2.2.2.1.1
  have hmk9 := hlt3 _ _ hmk
  refine c_Pv (kc := 0) (ks := 0) hC kv_X9_144 dX9_setField_32 (m_X5_replace (i := i) (q := setFld (sAt S i) f b) hs9 hS hz (by omega) hent hi) (u1) rfl rfl rfl rfl (by decide) (Nat.le_of_ble_eq_true rfl) ?_
  intro v9 M4 h9
  obtain ⟨rfl, f1, f2⟩ := h9
  have hz4 : sub Z2 M4.1 := kept.sub (W := fun a => a = c + 3 ∨ a = c + 3 + 1) (fun a o ha hn => (f2 a (fun e9 => hn (Or.inl e9)) (fun e9 => hn (Or.inr e9))).trans ha) hz (fun a e9 => by rcases e9 with e9 | e9 <;> rw [e9] <;> assumption)
  refine j_aload_n hC dX9_setField_35 rfl (jrf_ref _) ?_
  refine j_iload_n hC dX9_setField_36 rfl ?_
  obtain ⟨p1, hp1, mp1⟩ := m_X1_textAt (f := f) hs9 ((ep1.mono q0.1).mono hz4) (by omega)
  obtain ⟨fp1, op1⟩ := hp1.obj
  have lp1 := (((ep1.mono q0.1).mono hz4).2.2.2 (f) (by omega)).1
  refine c_V hC kv_X9_148 dX9_setField_37 (mp1) ((hz4 _ _ (q0.1 _ _ (hg0.1 _ _ op)))) rfl rfl rfl rfl (by decide) (Nat.le_of_ble_eq_true rfl) ?_
  refine c_V hC kv_X9_152 dX9_setField_40 (m_X8_length hs9 hp1) (op1) rfl rfl rfl rfl (by decide) (Nat.le_of_ble_eq_true rfl) ?_
  have hkk : kept M3 (M4) (fun a => a = c + 3 ∨ a = c + 3 + 1) := fun a o ha hn => (f2 a (fun e9 => hn (Or.inl e9)) (fun e9 => hn (Or.inr e9))).trans ha
  have hz9 : sub Z2 (M4).1 := kept.sub hkk hz (fun a e9 => by rcases e9 with e9 | e9 <;> rw [e9] <;> assumption)
  have hJ9 := hJ3.set (Z' := Z2) (M' := M4) (S' := setRec S i (setFld (sAt S i) f b)) f1 zg_refl hz9 hkk
  have hkf : kept M (M4) (fun a => a = v ∨ (c ≤ a ∧ a < c + 120)) := fun a o ha hn => hkk _ _ (hk3 _ _ (hk1 _ _ (hk0 _ _ ha (fun (e9 : a = c + 1) => hn (show _ ∨ _ from by omega))) (fun (e9 : a = c ∨ a = c + 13 ∨ (c + 80 ≤ a ∧ a < c + 119)) => hn (show _ ∨ _ from by omega))) id) (fun (e9 : a = c + 3 ∨ a = c + 3 + 1) => hn (show _ ∨ _ from by omega))
  have hkz : kept M M1 (fun a => a < c + 120) := fun a o ha hn => hk1 _ _ (hk0 _ _ ha (fun (e9 : a = c + 1) => hn (show _ from by omega))) (fun (e9 : a = c ∨ a = c + 13 ∨ (c + 80 ≤ a ∧ a < c + 119)) => hn (show _ from by omega))
  have hgf : zg M Z Z2 := zg.tr3 hg0 q1 hlt1 hkz (fun a (e9 : a < c + 120) => by omega)
  exact j_iret hC9 rfl (rfl) dX9_setField_43 (cr_of (T' := (setRec S i (setFld (sAt S i) f b), (keepP P S), V, [], e, u)) (sfl_0 (T := (S, P, V, b, e, u)) hi hn20 hf hno) (cQ_of hJ9 hkf hgf))
set_option maxHeartbeats 4000000 in
set_option maxRecDepth 100000 in
theorem m_X9_field {G : jG} {M : jM} {c v : Nat} {S : aSet} {P : List aSet} {V : Option aSet} {b : List Nat} {e : Option Nat} {u : Option aRun} {Z : jH} {q r r2 : Int32} (hs : (gL G).stackTraces = false) (h : cJ G M Z c v S P V b e u)  : JMet G jX9_field [.ref c, .int q, .int r, .int r2] (M) 3 18 8 (COq G M Z c v (opFieldAt q r r2) (S, P, V, b, e, u)) (COx G M Z c v (opFieldAt q r r2) ["java/lang/IndexOutOfBoundsException", "java/util/NoSuchElementException"] (S, P, V, b, e, u)) := by
  refine jMet_of [some (.ref (c)), some (.int (q)), some (.int (r)), some (.int (r2)), none, none] (by decide) rfl (Nat.le_of_ble_eq_true rfl) (rfl) hs ?_
  intro C hC9 hG
  have hC := hC9.z
  have hs9 := jOK0_tr hC
  refine j_lt (fun hlt => ?_)
  have hBg : jB C = gB G := by rw [jB, hG]
  subst hG
  obtain ⟨⟨a1, za⟩, ⟨⟨cap, hbu⟩, zb1, zbv, hv, hb120, hbc⟩, ⟨hS, zs3, zs4⟩, ⟨hVX, zv8, zv9, hVs⟩, ⟨pa, hPa⟩, ⟨ho, zo, hon⟩, ⟨⟨dX, dk, dr, dl, dch, hd⟩, zd⟩, ⟨⟨od, hod⟩, zn79⟩, ⟨hz, hkr, hBc, ⟨mk, hmk⟩⟩, hP8, hE⟩ := id h
  obtain ⟨p1, zp13, p3, p4, p5, p6⟩ := id hPa
  obtain ⟨⟨mb, bu, hb1, hb2, hb3, hb4, hb5⟩, hb6, hb7⟩ := id hbu
  obtain ⟨⟨lay, home, ff, xe, u1, u2, u5, u3, u6, u7⟩, u4⟩ := id hS
  obtain ⟨ho1, ho2, ho3, ho4, ho5⟩ := id ho
  have hn20 : (sRecs S).length ≤ 20 := u4.1.1
  have hk32 : sKeys S < 32 := u4.1.2.1
  have hp3 : sPol S < 3 := u4.1.2.2.1
  have ho10 : sOut S < 1024 := u4.1.2.2.2.1
  have hl2 : sLim S ≤ 200 := u4.1.2.2.2.2.1.2
  have hl1 : 1 ≤ sLim S := u4.1.2.2.2.2.1.1
  have hmk9 := hlt _ _ hmk
  refine j_aload_n hC dX9_field_0 rfl (jrf_ref _) ?_
  refine j_iload_n hC dX9_field_1 rfl ?_
  refine c_Tv (kc := 2) (ks := 12) hC9 rfl kv_X9_112 dX9_field_2 (m_X9_existing (r := q) hs9 h) (a1) rfl rfl rfl rfl (by decide) (Nat.le_of_ble_eq_true rfl) (fun E9 M9 hx9 => ?_) ?_
  · obtain ⟨rfl, e9, hno⟩ := hx9
    exact cx_of (k := 0) (x := nI 0) (T' := (S, P, V, b, e, u)) (fld_1 (fun e8 => hno e8.1)) rfl (cQ_same h e9)
  intro v9 M1 h9
  obtain ⟨i, rfl, hi, e9, p, rfl, ep⟩ := h9
  refine j_M e9 ?_
  clear e9
  obtain ⟨bp, op⟩ := ep.obj
  refine j_astore_4 hC dX9_field_5 (jrf_ref _) (by decide) rfl ?_
  refine j_iload_n hC dX9_field_7 rfl ?_
  refine c_Ts (kc := 1) (ks := 6) hC9 rfl ks_X9_129 rfl dX9_field_8 (m_X9_checkField (f := r) hs9) rfl rfl (by decide) (Nat.le_of_ble_eq_true rfl) (fun E9 M9 hx9 => ?_) ?_
  · obtain ⟨rfl, e9, hno⟩ := hx9
    exact cx_of (k := 0) (x := nI 0) (T' := (S, P, V, b, e, u)) (fld_1 (fun e8 => hno e8.2)) rfl (cQ_same h e9)
  intro v9 M1 h9
  obtain ⟨rfl, e9, hjf⟩ := h9
  refine j_M e9 ?_
  clear e9
  obtain ⟨f, hf, rfl⟩ := jin_of hjf (by decide)
  refine j_aload hC dX9_field_11 rfl (jrf_ref _) ?_
  refine j_iload_n hC dX9_field_13 rfl ?_
  obtain ⟨p1, hp1, mp1⟩ := m_X1_textAt (f := f) hs9 (ep.mono hz) (by omega)
  obtain ⟨fp1, op1⟩ := hp1.obj
  have lp1 := ((ep.mono hz).2.2.2 (f) (by omega)).1
  refine c_V hC kv_X9_148 dX9_field_14 (mp1) ((hz _ _ op)) rfl rfl rfl rfl (by decide) (Nat.le_of_ble_eq_true rfl) ?_
  refine j_astore_5 hC dX9_field_17 (jrf_ref _) (by decide) rfl ?_
  refine j_iload_n hC dX9_field_19 rfl ?_
  refine j_iconst (v := zI (-1)) hC dX9_field_20 (by decide) ?_
  refine j_icmp_lt (tgt := 33) hC dX9_field_21 (by decide) (fun c2 => ?_) (fun c2 => ?_)
  · exact j_throwN hC9 (i := 16) rfl rfl rfl dX9_field_33 dX9_field_36 dX9_field_37 dX9_field_39 dX9_field_42 (by decide) (by decide) (by decide) (Nat.le_of_ble_eq_true rfl) (fun n9 => cx_of (k := 1) (x := nI 0) (T' := (S, P, V, b, e, u)) (fld_2 (T := (S, P, V, b, e, u)) hi hn20 hf (by first | exact m1_no1 (by assumption) | exact m1_no2 (n := ((sAt S i).2.2 (f)).length) (by omega) (by assumption))) rfl (cQ_same h rfl))
  · refine j_iload_n hC dX9_field_24 rfl ?_
    refine j_aload hC dX9_field_25 rfl (jrf_ref _) ?_
    refine c_V hC kv_X9_152 dX9_field_27 (m_X8_length hs9 hp1) (op1) rfl rfl rfl rfl (by decide) (Nat.le_of_ble_eq_true rfl) ?_
    refine j_icmp_lt (tgt := 43) hC dX9_field_30 (by decide) (fun c3 => ?_) (fun c3 => ?_)
    · refine j_iload_n hC dX9_field_43 rfl ?_
      refine j_iconst (v := zI (-1)) hC dX9_field_44 (by decide) ?_
      refine j_icmp_ne (tgt := 56) hC dX9_field_45 (by decide) (fun c4 => ?_) (fun c4 => ?_)
      · obtain ⟨k9, hk9, rfl⟩ := jin_of (m1_in (n := ((sAt S i).2.2 (f)).length) (by omega) (by assumption) (by assumption) (by assumption)) (by omega)
        refine j_aload hC dX9_field_56 rfl (jrf_ref _) ?_
        refine j_iload_n hC dX9_field_58 rfl ?_
        refine c_V hC kv_X9_174 dX9_field_59 (m_X8_signAt hs9 hp1 (by omega)) (op1) rfl rfl rfl rfl (by decide) (Nat.le_of_ble_eq_true rfl) ?_
        exact j_iret hC9 rfl (rfl) dX9_field_62 (cr_of (T' := (S, P, V, b, e, u)) (fld_i (T := (S, P, V, b, e, u)) hi hn20 hf hk9 (by omega)) (cQ_same h rfl))
      · refine j_aload hC dX9_field_48 rfl (jrf_ref _) ?_
        refine c_V hC kv_X9_152 dX9_field_50 (m_X8_length hs9 hp1) (op1) rfl rfl rfl rfl (by decide) (Nat.le_of_ble_eq_true rfl) ?_
        refine j_goto (tgt := 62) hC dX9_field_53 (by decide) ?_
        exact j_iret hC9 rfl (rfl) dX9_field_62 (cr_of (T' := (S, P, V, b, e, u)) (fld_n (T := (S, P, V, b, e, u)) hi hn20 hf (m1_eq (by assumption)) (m1_lt (by assumption))) (cQ_same h rfl))
    · exact j_throwN hC9 (i := 16) rfl rfl rfl dX9_field_33 dX9_field_36 dX9_field_37 dX9_field_39 dX9_field_42 (by decide) (by decide) (by decide) (Nat.le_of_ble_eq_true rfl) (fun n9 => cx_of (k := 1) (x := nI 0) (T' := (S, P, V, b, e, u)) (fld_2 (T := (S, P, V, b, e, u)) hi hn20 hf (by first | exact m1_no1 (by assumption) | exact m1_no2 (n := ((sAt S i).2.2 (f)).length) (by omega) (by assumption))) rfl (cQ_same h rfl))
set_option maxHeartbeats 4000000 in
set_option maxRecDepth 100000 in
theorem m_X9_reason {G : jG} {M : jM} {c v : Nat} {S : aSet} {P : List aSet} {V : Option aSet} {b : List Nat} {e : Option Nat} {u : Option aRun} {Z : jH} {q : Int32} (hs : (gL G).stackTraces = false) (h : cJ G M Z c v S P V b e u)  : JMet G jX9_reason [.ref c, .int q] (M) 2 12 8 (COq G M Z c v (opReason q) (S, P, V, b, e, u)) (COx G M Z c v (opReason q) ["java/lang/IllegalStateException", "java/lang/IndexOutOfBoundsException"] (S, P, V, b, e, u)) := by
  refine jMet_of [some (.ref (c)), some (.int (q))] (by decide) rfl (Nat.le_of_ble_eq_true rfl) (rfl) hs ?_
  intro C hC9 hG
  have hC := hC9.z
  have hs9 := jOK0_tr hC
  refine j_lt (fun hlt => ?_)
  have hBg : jB C = gB G := by rw [jB, hG]
  subst hG
  obtain ⟨⟨a1, za⟩, ⟨⟨cap, hbu⟩, zb1, zbv, hv, hb120, hbc⟩, ⟨hS, zs3, zs4⟩, ⟨hVX, zv8, zv9, hVs⟩, ⟨pa, hPa⟩, ⟨ho, zo, hon⟩, ⟨⟨dX, dk, dr, dl, dch, hd⟩, zd⟩, ⟨⟨od, hod⟩, zn79⟩, ⟨hz, hkr, hBc, ⟨mk, hmk⟩⟩, hP8, hE⟩ := id h
  obtain ⟨p1, zp13, p3, p4, p5, p6⟩ := id hPa
  obtain ⟨⟨mb, bu, hb1, hb2, hb3, hb4, hb5⟩, hb6, hb7⟩ := id hbu
  obtain ⟨⟨lay, home, ff, xe, u1, u2, u5, u3, u6, u7⟩, u4⟩ := id hS
  obtain ⟨ho1, ho2, ho3, ho4, ho5⟩ := id ho
  have hn20 : (sRecs S).length ≤ 20 := u4.1.1
  have hk32 : sKeys S < 32 := u4.1.2.1
  have hp3 : sPol S < 3 := u4.1.2.2.1
  have ho10 : sOut S < 1024 := u4.1.2.2.2.1
  have hl2 : sLim S ≤ 200 := u4.1.2.2.2.2.1.2
  have hl1 : 1 ≤ sLim S := u4.1.2.2.2.2.1.1
  have hmk9 := hlt _ _ hmk
  refine j_aload_n hC dX9_reason_0 rfl (jrf_ref _) ?_
  refine j_iload_n hC dX9_reason_1 rfl ?_
  refine c_Tv (kc := 0) (ks := 0) hC9 rfl kv_X9_296 dX9_reason_2 (m_X9_sheetOf (r := q) hs9 h) (a1) rfl rfl rfl rfl (by decide) (Nat.le_of_ble_eq_true rfl) (fun E9 M9 hx9 => ?_) ?_
  · obtain ⟨k, hk, ht, e9⟩ := hx9
    have hk2 := unA_le (u := u) (v := q)
    have hk01 : k = 0 ∨ k = 1 := by omega
    refine cx_of (k := k) (x := nI 0) (T' := (S, P, V, b, e, u)) (by rw [← hk]; exact rsn_e (T := (S, P, V, b, e, u)) (by show ¬ unA u q = 0; omega)) ?_ (cQ_same h e9)
    rcases hk01 with rfl | rfl <;> exact ht
  intro v9 M1 h9
  obtain ⟨i, L, rfl, rfl, hi, rfl, e9⟩ := h9
  refine j_M e9 ?_
  clear e9
  have hL20 : L.length ≤ 20 := ho3
  have hcl9 := (hon L rfl).2 i hi
  obtain ⟨⟨X9, k9, lim9, ch9, s1, s2, s3⟩, rb1, rb2, rb3⟩ := ho4 i hi
  replace s2 : (ranAt L i).1 = 0 → X9.1 = (ranAt L i).2.1 := s2
  replace s3 : 3 ≤ (ranAt L i).1 → k9 = (ranAt L i).2.2.length ∧ ∀ m, m < (ranAt L i).2.2.length → ch9 m = nI ((ranAt L i).2.2.getD m 0) := s3
  replace rb1 : (ranAt L i).1 ≤ 4 := rb1
  replace rb2 : (ranAt L i).2.1.length ≤ 200 := rb2
  obtain ⟨s4, ⟨g9, s5, s6⟩, s7, s8⟩ := id s1
  replace s4 : M.1 (c + 14 + 2 + 3 * i) = some (.inr (10, [.ref (c + 14 + 2 + 3 * i + 1), .ref (c + 14 + 2 + 3 * i + 2), .int (nI X9.1.length), .int (nI k9), .int (nI (ranAt L i).1), .int (nI lim9), .int (jb (X9.2 = true))])) := s4
  refine j_get (v := .int (nI ((ranAt L i).1))) hC kf_X9_300 dX9_reason_5 (s4) (rfl) ?_
  exact j_iret hC9 rfl (rfl) dX9_reason_8 (cr_of (T' := (S, P, V, b, e, some L)) (rsn_0 (T := (S, P, V, b, e, some L)) rfl hi hL20) (cQ_same h rfl))
set_option maxHeartbeats 4000000 in
set_option maxRecDepth 100000 in
theorem m_X9_letter {G : jG} {M : jM} {c v : Nat} {S : aSet} {P : List aSet} {V : Option aSet} {b : List Nat} {e : Option Nat} {u : Option aRun} {Z : jH} {q r : Int32} (hs : (gL G).stackTraces = false) (h : cJ G M Z c v S P V b e u)  : JMet G jX9_letter [.ref c, .int q, .int r] (M) 3 18 8 (COq G M Z c v (opLetter q r) (S, P, V, b, e, u)) (COx G M Z c v (opLetter q r) ["java/lang/IllegalStateException", "java/lang/IndexOutOfBoundsException", "java/lang/UnsupportedOperationException", "java/util/NoSuchElementException"] (S, P, V, b, e, u)) := by
  refine jMet_of [some (.ref (c)), some (.int (q)), some (.int (r)), none] (by decide) rfl (Nat.le_of_ble_eq_true rfl) (rfl) hs ?_
  intro C hC9 hG
  have hC := hC9.z
  have hs9 := jOK0_tr hC
  refine j_lt (fun hlt => ?_)
  have hBg : jB C = gB G := by rw [jB, hG]
  subst hG
  obtain ⟨⟨a1, za⟩, ⟨⟨cap, hbu⟩, zb1, zbv, hv, hb120, hbc⟩, ⟨hS, zs3, zs4⟩, ⟨hVX, zv8, zv9, hVs⟩, ⟨pa, hPa⟩, ⟨ho, zo, hon⟩, ⟨⟨dX, dk, dr, dl, dch, hd⟩, zd⟩, ⟨⟨od, hod⟩, zn79⟩, ⟨hz, hkr, hBc, ⟨mk, hmk⟩⟩, hP8, hE⟩ := id h
  obtain ⟨p1, zp13, p3, p4, p5, p6⟩ := id hPa
  obtain ⟨⟨mb, bu, hb1, hb2, hb3, hb4, hb5⟩, hb6, hb7⟩ := id hbu
  obtain ⟨⟨lay, home, ff, xe, u1, u2, u5, u3, u6, u7⟩, u4⟩ := id hS
  obtain ⟨ho1, ho2, ho3, ho4, ho5⟩ := id ho
  have hn20 : (sRecs S).length ≤ 20 := u4.1.1
  have hk32 : sKeys S < 32 := u4.1.2.1
  have hp3 : sPol S < 3 := u4.1.2.2.1
  have ho10 : sOut S < 1024 := u4.1.2.2.2.1
  have hl2 : sLim S ≤ 200 := u4.1.2.2.2.2.1.2
  have hl1 : 1 ≤ sLim S := u4.1.2.2.2.2.1.1
  have hmk9 := hlt _ _ hmk
  refine j_aload_n hC dX9_letter_0 rfl (jrf_ref _) ?_
  refine j_iload_n hC dX9_letter_1 rfl ?_
  refine c_Tv (kc := 1) (ks := 6) hC9 rfl kv_X9_296 dX9_letter_2 (m_X9_sheetOf (r := q) hs9 h) (a1) rfl rfl rfl rfl (by decide) (Nat.le_of_ble_eq_true rfl) (fun E9 M9 hx9 => ?_) ?_
  · obtain ⟨k, hk, ht, e9⟩ := hx9
    have hk2 := unA_le (u := u) (v := q)
    have hk01 : k = 0 ∨ k = 1 := by omega
    refine cx_of (k := k) (x := nI 0) (T' := (S, P, V, b, e, u)) (by rw [← hk]; exact ltr_e (T := (S, P, V, b, e, u)) (by show ¬ unA u q = 0; omega)) ?_ (cQ_same h e9)
    rcases hk01 with rfl | rfl <;> exact ht
  intro v9 M1 h9
  obtain ⟨i, L, rfl, rfl, hi, rfl, e9⟩ := h9
  refine j_M e9 ?_
  clear e9
  have hL20 : L.length ≤ 20 := ho3
  have hcl9 := (hon L rfl).2 i hi
  obtain ⟨⟨X9, k9, lim9, ch9, s1, s2, s3⟩, rb1, rb2, rb3⟩ := ho4 i hi
  replace s2 : (ranAt L i).1 = 0 → X9.1 = (ranAt L i).2.1 := s2
  replace s3 : 3 ≤ (ranAt L i).1 → k9 = (ranAt L i).2.2.length ∧ ∀ m, m < (ranAt L i).2.2.length → ch9 m = nI ((ranAt L i).2.2.getD m 0) := s3
  replace rb1 : (ranAt L i).1 ≤ 4 := rb1
  replace rb2 : (ranAt L i).2.1.length ≤ 200 := rb2
  obtain ⟨s4, ⟨g9, s5, s6⟩, s7, s8⟩ := id s1
  replace s4 : M.1 (c + 14 + 2 + 3 * i) = some (.inr (10, [.ref (c + 14 + 2 + 3 * i + 1), .ref (c + 14 + 2 + 3 * i + 2), .int (nI X9.1.length), .int (nI k9), .int (nI (ranAt L i).1), .int (nI lim9), .int (jb (X9.2 = true))])) := s4
  refine j_astore_n3 hC dX9_letter_5 (jrf_ref _) (by decide) rfl ?_
  refine j_aload_n hC dX9_letter_6 rfl (jrf_ref _) ?_
  refine j_get (v := .int (nI ((ranAt L i).1))) hC kf_X9_300 dX9_letter_7 (s4) (rfl) ?_
  refine n_if_eq (tgt := 24) hC dX9_letter_10 (by decide) (by omega) (fun c1 => ?_) (fun c1 => ?_)
  · have hX := s2 (by assumption)
    have s4b : M.1 (c + 14 + 2 + 3 * i) = some (.inr (10, [.ref (c + 14 + 2 + 3 * i + 1), .ref (c + 14 + 2 + 3 * i + 2), .int (nI (ranAt L i).2.1.length), .int (nI k9), .int (nI (ranAt L i).1), .int (nI lim9), .int (jb (X9.2 = true))])) := by rw [← hX]; exact s4
    have s6b : ∀ m, m < (ranAt L i).2.1.length → g9 m = nI ((ranAt L i).2.1.getD m 0) := by rw [← hX]; exact s6
    refine j_iload_n hC dX9_letter_24 rfl ?_
    refine j_iconst (v := zI (-1)) hC dX9_letter_25 (by decide) ?_
    refine j_icmp_lt (tgt := 37) hC dX9_letter_26 (by decide) (fun c2 => ?_) (fun c2 => ?_)
    · exact j_throwN hC9 (i := 16) rfl rfl rfl dX9_letter_37 dX9_letter_40 dX9_letter_41 dX9_letter_43 dX9_letter_46 (by decide) (by decide) (by decide) (Nat.le_of_ble_eq_true rfl) (fun n9 => cx_of (k := 3) (x := nI 0) (T' := (S, P, V, b, e, some L)) (ltr_4 (T := (S, P, V, b, e, some L)) rfl hi hL20 (by assumption) (by first | exact m1_no1 (by assumption) | exact m1_no2 (by omega) (by assumption))) rfl (cQ_same h rfl))
    · refine j_iload_n hC dX9_letter_29 rfl ?_
      refine j_aload_n hC dX9_letter_30 rfl (jrf_ref _) ?_
      refine j_get (v := .int (nI ((ranAt L i).2.1.length))) hC kf_X9_313 dX9_letter_31 (s4b) (rfl) ?_
      refine j_icmp_lt (tgt := 47) hC dX9_letter_34 (by decide) (fun c3 => ?_) (fun c3 => ?_)
      · refine j_iload_n hC dX9_letter_47 rfl ?_
        refine j_iconst (v := zI (-1)) hC dX9_letter_48 (by decide) ?_
        refine j_icmp_ne (tgt := 59) hC dX9_letter_49 (by decide) (fun c4 => ?_) (fun c4 => ?_)
        · obtain ⟨k8, hk8, rfl⟩ := jin_of (m1_in (n := (ranAt L i).2.1.length) (by omega) (by assumption) (by assumption) (by assumption)) (by omega)
          refine j_aload_n hC dX9_letter_59 rfl (jrf_ref _) ?_
          refine j_get (v := .ref (c + 14 + 2 + 3 * i + 1)) hC kf_X9_314 dX9_letter_60 (s4b) (rfl) ?_
          refine j_iload_n hC dX9_letter_63 rfl ?_
          refine c_cald (i := k8) (x := nI ((ranAt L i).2.1.getD (k8) 0)) hC dX9_letter_64 (s5) (by omega) (by omega) (s6b _ (by omega)) ?_
          exact j_iret hC9 rfl (rfl) dX9_letter_65 (cr_of (T' := (S, P, V, b, e, some L)) (ltr_i (T := (S, P, V, b, e, some L)) rfl hi hL20 (by assumption) hk8 (by omega)) (cQ_same h rfl))
        · refine j_aload_n hC dX9_letter_52 rfl (jrf_ref _) ?_
          refine j_get (v := .int (nI ((ranAt L i).2.1.length))) hC kf_X9_313 dX9_letter_53 (s4b) (rfl) ?_
          refine j_goto (tgt := 65) hC dX9_letter_56 (by decide) ?_
          exact j_iret hC9 rfl (rfl) dX9_letter_65 (cr_of (T' := (S, P, V, b, e, some L)) (ltr_n (T := (S, P, V, b, e, some L)) rfl hi hL20 (by assumption) (m1_eq (by assumption)) (m1_lt (by assumption))) (cQ_same h rfl))
      · exact j_throwN hC9 (i := 16) rfl rfl rfl dX9_letter_37 dX9_letter_40 dX9_letter_41 dX9_letter_43 dX9_letter_46 (by decide) (by decide) (by decide) (Nat.le_of_ble_eq_true rfl) (fun n9 => cx_of (k := 3) (x := nI 0) (T' := (S, P, V, b, e, some L)) (ltr_4 (T := (S, P, V, b, e, some L)) rfl hi hL20 (by assumption) (by first | exact m1_no1 (by assumption) | exact m1_no2 (by omega) (by assumption))) rfl (cQ_same h rfl))
  · exact j_throwSW hC9 (i := 37) rfl kt_X9_308 rfl dX9_letter_13 dX9_letter_16 dX9_letter_17 dX9_letter_20 dX9_letter_23 (by decide) (by decide) (by decide) (Nat.le_of_ble_eq_true rfl) (fun n9 => cx_of (k := 2) (x := nI 0) (T' := (S, P, V, b, e, some L)) (ltr_3 (T := (S, P, V, b, e, some L)) rfl hi hL20 (by assumption)) rfl (cQ_same h rfl))
set_option maxHeartbeats 4000000 in
set_option maxRecDepth 100000 in
theorem m_X9_chain {G : jG} {M : jM} {c v : Nat} {S : aSet} {P : List aSet} {V : Option aSet} {b : List Nat} {e : Option Nat} {u : Option aRun} {Z : jH} {q r : Int32} (hs : (gL G).stackTraces = false) (h : cJ G M Z c v S P V b e u)  : JMet G jX9_chain [.ref c, .int q, .int r] (M) 3 18 8 (COq G M Z c v (opChain q r) (S, P, V, b, e, u)) (COx G M Z c v (opChain q r) ["java/lang/IllegalStateException", "java/lang/IndexOutOfBoundsException", "java/lang/UnsupportedOperationException", "java/util/NoSuchElementException"] (S, P, V, b, e, u)) := by
  refine jMet_of [some (.ref (c)), some (.int (q)), some (.int (r)), none] (by decide) rfl (Nat.le_of_ble_eq_true rfl) (rfl) hs ?_
  intro C hC9 hG
  have hC := hC9.z
  have hs9 := jOK0_tr hC
  refine j_lt (fun hlt => ?_)
  have hBg : jB C = gB G := by rw [jB, hG]
  subst hG
  obtain ⟨⟨a1, za⟩, ⟨⟨cap, hbu⟩, zb1, zbv, hv, hb120, hbc⟩, ⟨hS, zs3, zs4⟩, ⟨hVX, zv8, zv9, hVs⟩, ⟨pa, hPa⟩, ⟨ho, zo, hon⟩, ⟨⟨dX, dk, dr, dl, dch, hd⟩, zd⟩, ⟨⟨od, hod⟩, zn79⟩, ⟨hz, hkr, hBc, ⟨mk, hmk⟩⟩, hP8, hE⟩ := id h
  obtain ⟨p1, zp13, p3, p4, p5, p6⟩ := id hPa
  obtain ⟨⟨mb, bu, hb1, hb2, hb3, hb4, hb5⟩, hb6, hb7⟩ := id hbu
  obtain ⟨⟨lay, home, ff, xe, u1, u2, u5, u3, u6, u7⟩, u4⟩ := id hS
  obtain ⟨ho1, ho2, ho3, ho4, ho5⟩ := id ho
  have hn20 : (sRecs S).length ≤ 20 := u4.1.1
  have hk32 : sKeys S < 32 := u4.1.2.1
  have hp3 : sPol S < 3 := u4.1.2.2.1
  have ho10 : sOut S < 1024 := u4.1.2.2.2.1
  have hl2 : sLim S ≤ 200 := u4.1.2.2.2.2.1.2
  have hl1 : 1 ≤ sLim S := u4.1.2.2.2.2.1.1
  have hmk9 := hlt _ _ hmk
  refine j_aload_n hC dX9_chain_0 rfl (jrf_ref _) ?_
  refine j_iload_n hC dX9_chain_1 rfl ?_
  refine c_Tv (kc := 1) (ks := 6) hC9 rfl kv_X9_296 dX9_chain_2 (m_X9_sheetOf (r := q) hs9 h) (a1) rfl rfl rfl rfl (by decide) (Nat.le_of_ble_eq_true rfl) (fun E9 M9 hx9 => ?_) ?_
  · obtain ⟨k, hk, ht, e9⟩ := hx9
    have hk2 := unA_le (u := u) (v := q)
    have hk01 : k = 0 ∨ k = 1 := by omega
    refine cx_of (k := k) (x := nI 0) (T' := (S, P, V, b, e, u)) (by rw [← hk]; exact chn_e (T := (S, P, V, b, e, u)) (by show ¬ unA u q = 0; omega)) ?_ (cQ_same h e9)
    rcases hk01 with rfl | rfl <;> exact ht
  intro v9 M1 h9
  obtain ⟨i, L, rfl, rfl, hi, rfl, e9⟩ := h9
  refine j_M e9 ?_
  clear e9
  have hL20 : L.length ≤ 20 := ho3
  have hcl9 := (hon L rfl).2 i hi
  obtain ⟨⟨X9, k9, lim9, ch9, s1, s2, s3⟩, rb1, rb2, rb3⟩ := ho4 i hi
  replace s2 : (ranAt L i).1 = 0 → X9.1 = (ranAt L i).2.1 := s2
  replace s3 : 3 ≤ (ranAt L i).1 → k9 = (ranAt L i).2.2.length ∧ ∀ m, m < (ranAt L i).2.2.length → ch9 m = nI ((ranAt L i).2.2.getD m 0) := s3
  replace rb1 : (ranAt L i).1 ≤ 4 := rb1
  replace rb2 : (ranAt L i).2.1.length ≤ 200 := rb2
  obtain ⟨s4, ⟨g9, s5, s6⟩, s7, s8⟩ := id s1
  replace s4 : M.1 (c + 14 + 2 + 3 * i) = some (.inr (10, [.ref (c + 14 + 2 + 3 * i + 1), .ref (c + 14 + 2 + 3 * i + 2), .int (nI X9.1.length), .int (nI k9), .int (nI (ranAt L i).1), .int (nI lim9), .int (jb (X9.2 = true))])) := s4
  refine j_astore_n3 hC dX9_chain_5 (jrf_ref _) (by decide) rfl ?_
  refine j_aload_n hC dX9_chain_6 rfl (jrf_ref _) ?_
  refine j_get (v := .int (nI ((ranAt L i).1))) hC kf_X9_300 dX9_chain_7 (s4) (rfl) ?_
  refine j_iconst (v := nI 3) hC dX9_chain_10 (by decide) ?_
  refine n_icmp_eq (tgt := 33) hC dX9_chain_11 (by decide) (by omega) (by omega) (fun c1 => ?_) (fun c1 => ?_)
  · have hr3 : 3 ≤ (ranAt L i).1 := by omega
    obtain ⟨hk3, hc3⟩ := s3 hr3
    have s4b : M.1 (c + 14 + 2 + 3 * i) = some (.inr (10, [.ref (c + 14 + 2 + 3 * i + 1), .ref (c + 14 + 2 + 3 * i + 2), .int (nI X9.1.length), .int (nI (ranAt L i).2.2.length), .int (nI (ranAt L i).1), .int (nI lim9), .int (jb (X9.2 = true))])) := by rw [← hk3]; exact s4
    have hl5 : (ranAt L i).2.2.length ≤ 5 := hcl9
    refine j_iload_n hC dX9_chain_33 rfl ?_
    refine j_if_lt (tgt := 45) hC dX9_chain_34 (by decide) (fun c2 => ?_) (fun c2 => ?_)
    · exact j_throwNW hC9 (i := 39) rfl rfl rfl dX9_chain_45 dX9_chain_48 dX9_chain_49 dX9_chain_52 dX9_chain_55 (by decide) (by decide) (by decide) (Nat.le_of_ble_eq_true rfl) (fun n9 => cx_of (k := 3) (x := nI 0) (T' := (S, P, V, b, e, some L)) (chn_4 (T := (S, P, V, b, e, some L)) rfl hi hL20 hr3 (by first | exact jin_n0 (by assumption) | exact jin_n1 (n := (ranAt L i).2.2.length) (by omega) (by assumption) | exact jin_n3 (n := (ranAt L i).2.2.length) (by omega) (by assumption))) rfl (cQ_same h rfl))
    · refine j_iload_n hC dX9_chain_37 rfl ?_
      refine j_aload_n hC dX9_chain_38 rfl (jrf_ref _) ?_
      refine j_get (v := .int (nI ((ranAt L i).2.2.length))) hC kf_X9_320 dX9_chain_39 (s4b) (rfl) ?_
      refine j_icmp_lt (tgt := 56) hC dX9_chain_42 (by decide) (fun c3 => ?_) (fun c3 => ?_)
      · have hj : jin r (ranAt L i).2.2.length = true := by first | exact jin_c (n := (ranAt L i).2.2.length) (by omega) (by assumption) (by assumption) | exact jin_c3 (n := (ranAt L i).2.2.length) (by omega) (by assumption) (by assumption)
        obtain ⟨k8, hk8, rfl⟩ := jin_of hj (by omega)
        refine j_aload_n hC dX9_chain_56 rfl (jrf_ref _) ?_
        refine j_get (v := .ref (c + 14 + 2 + 3 * i + 2)) hC kf_X9_325 dX9_chain_57 (s4b) (rfl) ?_
        refine j_iload_n hC dX9_chain_60 rfl ?_
        refine c_iald (i := k8) (x := nI ((ranAt L i).2.2.getD (k8) 0)) hC dX9_chain_61 (s7) (by omega) (by omega) (hc3 _ (by omega)) ?_
        exact j_iret hC9 rfl (rfl) dX9_chain_62 (cr_of (T' := (S, P, V, b, e, some L)) (chn_0 (T := (S, P, V, b, e, some L)) rfl hi hL20 hr3 hk8 (by omega)) (cQ_same h rfl))
      · exact j_throwNW hC9 (i := 39) rfl rfl rfl dX9_chain_45 dX9_chain_48 dX9_chain_49 dX9_chain_52 dX9_chain_55 (by decide) (by decide) (by decide) (Nat.le_of_ble_eq_true rfl) (fun n9 => cx_of (k := 3) (x := nI 0) (T' := (S, P, V, b, e, some L)) (chn_4 (T := (S, P, V, b, e, some L)) rfl hi hL20 hr3 (by first | exact jin_n0 (by assumption) | exact jin_n1 (n := (ranAt L i).2.2.length) (by omega) (by assumption) | exact jin_n3 (n := (ranAt L i).2.2.length) (by omega) (by assumption))) rfl (cQ_same h rfl))
  · refine j_aload_n hC dX9_chain_14 rfl (jrf_ref _) ?_
    refine j_get (v := .int (nI ((ranAt L i).1))) hC kf_X9_300 dX9_chain_15 (s4) (rfl) ?_
    refine j_iconst (v := nI 4) hC dX9_chain_18 (by decide) ?_
    refine n_icmp_eq (tgt := 33) hC dX9_chain_19 (by decide) (by omega) (by omega) (fun c4 => ?_) (fun c4 => ?_)
    · have hr3 : 3 ≤ (ranAt L i).1 := by omega
      obtain ⟨hk3, hc3⟩ := s3 hr3
      have s4b : M.1 (c + 14 + 2 + 3 * i) = some (.inr (10, [.ref (c + 14 + 2 + 3 * i + 1), .ref (c + 14 + 2 + 3 * i + 2), .int (nI X9.1.length), .int (nI (ranAt L i).2.2.length), .int (nI (ranAt L i).1), .int (nI lim9), .int (jb (X9.2 = true))])) := by rw [← hk3]; exact s4
      have hl5 : (ranAt L i).2.2.length ≤ 5 := hcl9
      refine j_iload_n hC dX9_chain_33 rfl ?_
      refine j_if_lt (tgt := 45) hC dX9_chain_34 (by decide) (fun c5 => ?_) (fun c5 => ?_)
      · exact j_throwNW hC9 (i := 39) rfl rfl rfl dX9_chain_45 dX9_chain_48 dX9_chain_49 dX9_chain_52 dX9_chain_55 (by decide) (by decide) (by decide) (Nat.le_of_ble_eq_true rfl) (fun n9 => cx_of (k := 3) (x := nI 0) (T' := (S, P, V, b, e, some L)) (chn_4 (T := (S, P, V, b, e, some L)) rfl hi hL20 hr3 (by first | exact jin_n0 (by assumption) | exact jin_n1 (n := (ranAt L i).2.2.length) (by omega) (by assumption) | exact jin_n3 (n := (ranAt L i).2.2.length) (by omega) (by assumption))) rfl (cQ_same h rfl))
      · refine j_iload_n hC dX9_chain_37 rfl ?_
        refine j_aload_n hC dX9_chain_38 rfl (jrf_ref _) ?_
        refine j_get (v := .int (nI ((ranAt L i).2.2.length))) hC kf_X9_320 dX9_chain_39 (s4b) (rfl) ?_
        refine j_icmp_lt (tgt := 56) hC dX9_chain_42 (by decide) (fun c6 => ?_) (fun c6 => ?_)
        · have hj : jin r (ranAt L i).2.2.length = true := by first | exact jin_c (n := (ranAt L i).2.2.length) (by omega) (by assumption) (by assumption) | exact jin_c3 (n := (ranAt L i).2.2.length) (by omega) (by assumption) (by assumption)
          obtain ⟨k8, hk8, rfl⟩ := jin_of hj (by omega)
          refine j_aload_n hC dX9_chain_56 rfl (jrf_ref _) ?_
          refine j_get (v := .ref (c + 14 + 2 + 3 * i + 2)) hC kf_X9_325 dX9_chain_57 (s4b) (rfl) ?_
          refine j_iload_n hC dX9_chain_60 rfl ?_
          refine c_iald (i := k8) (x := nI ((ranAt L i).2.2.getD (k8) 0)) hC dX9_chain_61 (s7) (by omega) (by omega) (hc3 _ (by omega)) ?_
          exact j_iret hC9 rfl (rfl) dX9_chain_62 (cr_of (T' := (S, P, V, b, e, some L)) (chn_0 (T := (S, P, V, b, e, some L)) rfl hi hL20 hr3 hk8 (by omega)) (cQ_same h rfl))
        · exact j_throwNW hC9 (i := 39) rfl rfl rfl dX9_chain_45 dX9_chain_48 dX9_chain_49 dX9_chain_52 dX9_chain_55 (by decide) (by decide) (by decide) (Nat.le_of_ble_eq_true rfl) (fun n9 => cx_of (k := 3) (x := nI 0) (T' := (S, P, V, b, e, some L)) (chn_4 (T := (S, P, V, b, e, some L)) rfl hi hL20 hr3 (by first | exact jin_n0 (by assumption) | exact jin_n1 (n := (ranAt L i).2.2.length) (by omega) (by assumption) | exact jin_n3 (n := (ranAt L i).2.2.length) (by omega) (by assumption))) rfl (cQ_same h rfl))
    · exact j_throwSW hC9 (i := 38) rfl kt_X9_308 rfl dX9_chain_22 dX9_chain_25 dX9_chain_26 dX9_chain_29 dX9_chain_32 (by decide) (by decide) (by decide) (Nat.le_of_ble_eq_true rfl) (fun n9 => cx_of (k := 2) (x := nI 0) (T' := (S, P, V, b, e, some L)) (chn_3 (T := (S, P, V, b, e, some L)) rfl hi hL20 (show (ranAt L i).1 < 3 by omega)) rfl (cQ_same h rfl))
set_option maxHeartbeats 4000000 in
set_option maxRecDepth 100000 in
theorem m_X9_reasons {G : jG} {M : jM} {c v : Nat} {S : aSet} {P : List aSet} {V : Option aSet} {b : List Nat} {e : Option Nat} {u : Option aRun} {Z : jH} {q : Int32} (hs : (gL G).stackTraces = false) (h : cJ G M Z c v S P V b e u)  : JMet G jX9_reasons [.ref c, .int q] (M) 2 12 7 (COq G M Z c v (opReasons q) (S, P, V, b, e, u)) (COx G M Z c v (opReasons q) ["java/lang/IllegalStateException", "java/lang/IllegalArgumentException"] (S, P, V, b, e, u)) := by
  refine jMet_of [some (.ref (c)), some (.int (q))] (by decide) rfl (Nat.le_of_ble_eq_true rfl) (rfl) hs ?_
  intro C hC9 hG
  have hC := hC9.z
  have hs9 := jOK0_tr hC
  refine j_lt (fun hlt => ?_)
  have hBg : jB C = gB G := by rw [jB, hG]
  subst hG
  obtain ⟨⟨a1, za⟩, ⟨⟨cap, hbu⟩, zb1, zbv, hv, hb120, hbc⟩, ⟨hS, zs3, zs4⟩, ⟨hVX, zv8, zv9, hVs⟩, ⟨pa, hPa⟩, ⟨ho, zo, hon⟩, ⟨⟨dX, dk, dr, dl, dch, hd⟩, zd⟩, ⟨⟨od, hod⟩, zn79⟩, ⟨hz, hkr, hBc, ⟨mk, hmk⟩⟩, hP8, hE⟩ := id h
  obtain ⟨p1, zp13, p3, p4, p5, p6⟩ := id hPa
  obtain ⟨⟨mb, bu, hb1, hb2, hb3, hb4, hb5⟩, hb6, hb7⟩ := id hbu
  obtain ⟨⟨lay, home, ff, xe, u1, u2, u5, u3, u6, u7⟩, u4⟩ := id hS
  obtain ⟨ho1, ho2, ho3, ho4, ho5⟩ := id ho
  have hn20 : (sRecs S).length ≤ 20 := u4.1.1
  have hk32 : sKeys S < 32 := u4.1.2.1
  have hp3 : sPol S < 3 := u4.1.2.2.1
  have ho10 : sOut S < 1024 := u4.1.2.2.2.1
  have hl2 : sLim S ≤ 200 := u4.1.2.2.2.2.1.2
  have hl1 : 1 ≤ sLim S := u4.1.2.2.2.2.1.1
  have hmk9 := hlt _ _ hmk
  refine j_aload_n hC dX9_reasons_0 rfl (jrf_ref _) ?_
  refine c_Tv (kc := 1) (ks := 6) hC9 rfl kv_X9_303 dX9_reasons_1 (m_X9_checkRun hs9 h) (a1) rfl rfl rfl rfl (by decide) (Nat.le_of_ble_eq_true rfl) (fun E9 M9 hx9 => ?_) ?_
  · obtain ⟨rfl, e9, hno⟩ := hx9
    exact cx_of (k := 0) (x := nI 0) (T' := (S, P, V, b, e, u)) (rss_1 hno) rfl (cQ_same h e9)
  intro v9 M1 h9
  obtain ⟨rfl, e9, L, rfl⟩ := h9
  refine j_M e9 ?_
  clear e9
  have hoL : outR M.1 (c + 14) L := ho
  refine j_iload_n hC dX9_reasons_4 rfl ?_
  refine j_if_lt (tgt := 13) hC dX9_reasons_5 (by decide) (fun c1 => ?_) (fun c1 => ?_)
  · exact j_throwSW hC9 (i := 36) rfl kt_X9_69 rfl dX9_reasons_13 dX9_reasons_16 dX9_reasons_17 dX9_reasons_20 dX9_reasons_23 (by decide) (by decide) (by decide) (Nat.le_of_ble_eq_true rfl) (fun n9 => cx_of (k := 1) (x := nI 0) (T' := (S, P, V, b, e, some L)) (rss_2 (T := (S, P, V, b, e, some L)) rfl (by first | exact jin_n0 (by assumption) | exact jin_nle (n := 4) (by decide) (by assumption))) rfl (cQ_same h rfl))
  · refine j_iload_n hC dX9_reasons_8 rfl ?_
    refine j_iconst (v := nI 4) hC dX9_reasons_9 (by decide) ?_
    refine j_icmp_le (tgt := 24) hC dX9_reasons_10 (by decide) (fun c2 => ?_) (fun c2 => ?_)
    · have hj : jin q 5 = true := jin_le (n := 4) (by decide) (by assumption) (by assumption)
      obtain ⟨k9, hk9, rfl⟩ := jin_of hj (by decide)
      refine j_aload_n hC dX9_reasons_24 rfl (jrf_ref _) ?_
      refine j_get (v := .ref (c + 14)) hC kf_X9_33 dX9_reasons_25 (a1) (rfl) ?_
      refine j_iload_n hC dX9_reasons_28 rfl ?_
      refine c_V hC kv_X9_293 dX9_reasons_29 (m_X3_howMany (k := k9) hs9 hoL (by omega)) (ho1) rfl rfl rfl rfl (by decide) (Nat.le_of_ble_eq_true rfl) ?_
      exact j_iret hC9 rfl (rfl) dX9_reasons_32 (cr_of (T' := (S, P, V, b, e, some L)) (rss_0 (T := (S, P, V, b, e, some L)) rfl hk9) (cQ_same h rfl))
    · exact j_throwSW hC9 (i := 36) rfl kt_X9_69 rfl dX9_reasons_13 dX9_reasons_16 dX9_reasons_17 dX9_reasons_20 dX9_reasons_23 (by decide) (by decide) (by decide) (Nat.le_of_ble_eq_true rfl) (fun n9 => cx_of (k := 1) (x := nI 0) (T' := (S, P, V, b, e, some L)) (rss_2 (T := (S, P, V, b, e, some L)) rfl (by first | exact jin_n0 (by assumption) | exact jin_nle (n := 4) (by decide) (by assumption))) rfl (cQ_same h rfl))
set_option maxHeartbeats 4000000 in
set_option maxRecDepth 100000 in
theorem m_X9_kept {G : jG} {M : jM} {c v : Nat} {S : aSet} {P : List aSet} {V : Option aSet} {b : List Nat} {e : Option Nat} {u : Option aRun} {Z : jH} {q : Int32} (hs : (gL G).stackTraces = false) (h : cJ G M Z c v S P V b e u)  : JMet G jX9_kept [.ref c, .int q] (M) 2 12 8 (COq G M Z c v (opKept q) (S, P, V, b, e, u)) (COx G M Z c v (opKept q) ["java/lang/IndexOutOfBoundsException", "java/lang/UnsupportedOperationException"] (S, P, V, b, e, u)) := by
  refine jMet_of [some (.ref (c)), some (.int (q)), none] (by decide) rfl (Nat.le_of_ble_eq_true rfl) (rfl) hs ?_
  intro C hC9 hG
  have hC := hC9.z
  have hs9 := jOK0_tr hC
  refine j_lt (fun hlt => ?_)
  have hBg : jB C = gB G := by rw [jB, hG]
  subst hG
  obtain ⟨⟨a1, za⟩, ⟨⟨cap, hbu⟩, zb1, zbv, hv, hb120, hbc⟩, ⟨hS, zs3, zs4⟩, ⟨hVX, zv8, zv9, hVs⟩, ⟨pa, hPa⟩, ⟨ho, zo, hon⟩, ⟨⟨dX, dk, dr, dl, dch, hd⟩, zd⟩, ⟨⟨od, hod⟩, zn79⟩, ⟨hz, hkr, hBc, ⟨mk, hmk⟩⟩, hP8, hE⟩ := id h
  obtain ⟨p1, zp13, p3, p4, p5, p6⟩ := id hPa
  obtain ⟨⟨mb, bu, hb1, hb2, hb3, hb4, hb5⟩, hb6, hb7⟩ := id hbu
  obtain ⟨⟨lay, home, ff, xe, u1, u2, u5, u3, u6, u7⟩, u4⟩ := id hS
  obtain ⟨ho1, ho2, ho3, ho4, ho5⟩ := id ho
  have hn20 : (sRecs S).length ≤ 20 := u4.1.1
  have hk32 : sKeys S < 32 := u4.1.2.1
  have hp3 : sPol S < 3 := u4.1.2.2.1
  have ho10 : sOut S < 1024 := u4.1.2.2.2.1
  have hl2 : sLim S ≤ 200 := u4.1.2.2.2.2.1.2
  have hl1 : 1 ≤ sLim S := u4.1.2.2.2.2.1.1
  have hmk9 := hlt _ _ hmk
  refine j_aload_n hC dX9_kept_0 rfl (jrf_ref _) ?_
  refine j_iload_n hC dX9_kept_1 rfl ?_
  refine c_Tv (kc := 1) (ks := 6) hC9 rfl kv_X9_112 dX9_kept_2 (m_X9_existing (r := q) hs9 h) (a1) rfl rfl rfl rfl (by decide) (Nat.le_of_ble_eq_true rfl) (fun E9 M9 hx9 => ?_) ?_
  · obtain ⟨rfl, e9, hno⟩ := hx9
    exact cx_of (k := 0) (x := nI 0) (T' := (S, P, V, b, e, u)) (kpt_1 hno) rfl (cQ_same h e9)
  intro v9 M1 h9
  obtain ⟨i, rfl, hi, e9, p, rfl, ep⟩ := h9
  refine j_M e9 ?_
  clear e9
  obtain ⟨bp, op⟩ := ep.obj
  refine j_astore_n2 hC dX9_kept_5 (jrf_ref _) (by decide) rfl ?_
  refine j_aload_n hC dX9_kept_6 rfl (jrf_ref _) ?_
  refine j_get (v := .ref (c + 3)) hC kf_X9_19 dX9_kept_7 (a1) (rfl) ?_
  refine j_aload_n hC dX9_kept_10 rfl (jrf_ref _) ?_
  refine c_V hC kv_X9_328 dX9_kept_11 (m_X5_isExcluded hs9 (hS.mono hz) (ep.mono hz)) (u1) rfl rfl rfl rfl (by decide) (Nat.le_of_ble_eq_true rfl) ?_
  refine jb_if_eq (tgt := 28) hC dX9_kept_14 (by decide) (fun c1 => ?_) (fun c1 => ?_)
  · refine j_aload_n hC dX9_kept_28 rfl (jrf_ref _) ?_
    refine j_get (v := .ref (c + 3)) hC kf_X9_19 dX9_kept_29 (a1) (rfl) ?_
    refine j_iload_n hC dX9_kept_32 rfl ?_
    refine j_aload_n hC dX9_kept_33 rfl (jrf_ref _) ?_
    refine j_get (v := .ref (c + 3)) hC kf_X9_19 dX9_kept_34 (a1) (rfl) ?_
    refine j_get (v := .int (nI (sPol S))) hC kf_X9_269 dX9_kept_37 (u1) (rfl) ?_
    refine j_iconst (v := nI 0) hC dX9_kept_40 (by decide) ?_
    refine c_V hC kv_X9_333 dX9_kept_41 (m_X5_keptOf (r := i) (p := sPol S) (b := false) hs9 (hS.mono hz) hi (by omega)) (u1) rfl rfl rfl rfl (by decide) (Nat.le_of_ble_eq_true rfl) ?_
    exact j_iret hC9 rfl (rfl) dX9_kept_44 (cr_of (T' := (S, P, V, b, e, u)) (by rw [keptC_A (by assumption) hi]; exact kpt_0 (T := (S, P, V, b, e, u)) hi hn20 (by assumption)) (cQ_same h rfl))
  · exact j_throwSW hC9 (i := 40) rfl kt_X9_308 rfl dX9_kept_17 dX9_kept_20 dX9_kept_21 dX9_kept_24 dX9_kept_27 (by decide) (by decide) (by decide) (Nat.le_of_ble_eq_true rfl) (fun n9 => cx_of (k := 1) (x := nI 0) (T' := (S, P, V, b, e, u)) (kpt_2 (T := (S, P, V, b, e, u)) hi hn20 (by assumption)) rfl (cQ_same h rfl))
