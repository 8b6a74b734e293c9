/-! ===== the merger: calls that change the setup ===== -/
set_option maxHeartbeats 4000000 in
set_option maxRecDepth 100000 in
theorem m_X9_setKeys {G : jG} {M : jM} {c v : Nat} {S : aSet} {P : List aSet} {V : Option aSet} {b : List Nat} {e : Option Nat} {u : Option aRun} {Z : jH} {q : Int32} (hs : (gL G).stackTraces = false) (h : cJ G M Z c v S P V b e u)  : JMet G jX9_setKeys [.ref c, .int q] (M) 1 6 7 (COq G M Z c v (opSets 1 0 31 q) (S, P, V, b, e, u)) (COx G M Z c v (opSets 1 0 31 q) ["java/lang/IllegalArgumentException"] (S, P, V, b, e, u)) := by
  refine jMet_of [some (.ref (c)), some (.int (q)), none] (by decide) rfl (Nat.le_of_ble_eq_true rfl) (rfl) hs ?_
  intro C hC9 hG
  have hC := hC9.z
  have hs9 := jOK0_tr hC
  refine j_lt (fun hlt => ?_)
  have hBg : jB C = gB G := by rw [jB, hG]
  subst hG
  obtain ⟨⟨a1, za⟩, ⟨⟨cap, hbu⟩, zb1, zbv, hv, hb120, hbc⟩, ⟨hS, zs3, zs4⟩, ⟨hVX, zv8, zv9, hVs⟩, ⟨pa, hPa⟩, ⟨ho, zo, hon⟩, ⟨⟨dX, dk, dr, dl, dch, hd⟩, zd⟩, ⟨⟨od, hod⟩, zn79⟩, ⟨hz, hkr, hBc, ⟨mk, hmk⟩⟩, hP8, hE⟩ := id h
  obtain ⟨p1, zp13, p3, p4, p5, p6⟩ := id hPa
  obtain ⟨⟨mb, bu, hb1, hb2, hb3, hb4, hb5⟩, hb6, hb7⟩ := id hbu
  obtain ⟨⟨lay, home, ff, xe, u1, u2, u5, u3, u6, u7⟩, u4⟩ := id hS
  obtain ⟨ho1, ho2, ho3, ho4, ho5⟩ := id ho
  have hn20 : (sRecs S).length ≤ 20 := u4.1.1
  have hk32 : sKeys S < 32 := u4.1.2.1
  have hp3 : sPol S < 3 := u4.1.2.2.1
  have ho10 : sOut S < 1024 := u4.1.2.2.2.1
  have hl2 : sLim S ≤ 200 := u4.1.2.2.2.2.1.2
  have hl1 : 1 ≤ sLim S := u4.1.2.2.2.2.1.1
  have hmk9 := hlt _ _ hmk
  refine j_iload_n hC dX9_setKeys_0 rfl ?_
  refine j_if_lt (tgt := 10) hC dX9_setKeys_1 (by decide) (fun c1 => ?_) (fun c1 => ?_)
  · exact j_throwSW hC9 (i := 28) rfl kt_X9_69 rfl dX9_setKeys_10 dX9_setKeys_13 dX9_setKeys_14 dX9_setKeys_17 dX9_setKeys_20 (by decide) (by decide) (by decide) (Nat.le_of_ble_eq_true rfl) (fun n9 => cx_of (k := 0) (x := nI 0) (T' := (S, P, V, b, e, u)) (set_1 (by first | exact out_lt (by assumption) | exact out_ge (by decide) (by assumption) | exact out_le (by assumption))) rfl (cQ_same h rfl))
  · refine j_iload_n hC dX9_setKeys_4 rfl ?_
    refine j_bipush (v := nI 32) hC dX9_setKeys_5 (by decide) ?_
    refine j_icmp_lt (tgt := 21) hC dX9_setKeys_7 (by decide) (fun c2 => ?_) (fun c2 => ?_)
    · have hin : nI 0 ≤ q ∧ q ≤ nI 31 := in_1 (by assumption) (by assumption) (by decide)
      obtain ⟨k, hk0, hk, rfl⟩ := in_ab hin (by decide) (by decide)
      refine j_aload_n hC dX9_setKeys_21 rfl (jrf_ref _) ?_
      refine c_Pv (kc := 1) (ks := 6) hC kv_X9_100 dX9_setKeys_22 (m_X9_remember hs9 h) (a1) rfl rfl rfl rfl (by decide) (Nat.le_of_ble_eq_true rfl) ?_
      intro v9 M1 h9
      obtain ⟨rfl, hJ1, hk1⟩ := h9
      refine j_lt (fun hlt1 => ?_)
      obtain ⟨⟨a1, za⟩, ⟨⟨cap, hbu⟩, zb1, zbv, hv, hb120, hbc⟩, ⟨hS, zs3, zs4⟩, ⟨hVX, zv8, zv9, hVs⟩, ⟨pa, hPa⟩, ⟨ho, zo, hon⟩, ⟨⟨dX, dk, dr, dl, dch, hd⟩, zd⟩, ⟨⟨od, hod⟩, zn79⟩, ⟨hz, hkr, hBc, ⟨mk, hmk⟩⟩, hP8, hE⟩ := id hJ1
      obtain ⟨p1, zp13, p3, p4, p5, p6⟩ := id hPa
      obtain ⟨⟨mb, bu, hb1, hb2, hb3, hb4, hb5⟩, hb6, hb7⟩ := id hbu
      obtain ⟨⟨lay, home, ff, xe, u1, u2, u5, u3, u6, u7⟩, u4⟩ := id hS
      obtain ⟨ho1, ho2, ho3, ho4, ho5⟩ := id ho
      have hn20 : (sRecs S).length ≤ 20 := u4.1.1
      have hk32 : sKeys S < 32 := u4.1.2.1
      have hp3 : sPol S < 3 := u4.1.2.2.1
      have ho10 : sOut S < 1024 := u4.1.2.2.2.1
      have hl2 : sLim S ≤ 200 := u4.1.2.2.2.2.1.2
      have hl1 : 1 ≤ sLim S := u4.1.2.2.2.2.1.1
      have hmk9 := hlt1 _ _ hmk
      refine j_aload_n hC dX9_setKeys_25 rfl (jrf_ref _) ?_
      refine j_get (v := .ref (c + 3)) hC kf_X9_19 dX9_setKeys_26 (a1) (rfl) ?_
      refine j_get (v := .int (nI (sKeys S))) hC kf_X9_264 dX9_setKeys_29 (u1) (rfl) ?_
      refine j_istore_n2 hC dX9_setKeys_32 (by decide) rfl ?_
      refine j_aload_n hC dX9_setKeys_33 rfl (jrf_ref _) ?_
      refine j_get (v := .ref (c + 3)) hC kf_X9_19 dX9_setKeys_34 (a1) (rfl) ?_
      refine j_iload_n hC dX9_setKeys_37 rfl ?_
      refine c_put (fs' := [.ref (c + 3 + 1), .int (nI (sRecs S).length), .ref lay, .ref home, .int (nI (k)), .int (nI (sPol S)), .int (nI (sOut S)), .int (nI (sLim S))]) hC kp_X9_264 dX9_setKeys_38 (u1) (by omega) (rfl) (rfl) rfl ?_
      refine j_iload_n hC dX9_setKeys_41 rfl ?_
      have hS9 : suR (jput (M1) (c + 3) (.inr (9, [.ref (c + 3 + 1), .int (nI (sRecs S).length), .ref lay, .ref home, .int (nI (k)), .int (nI (sPol S)), .int (nI (sOut S)), .int (nI (sLim S))]))).1 Z (c + 3) (withKeys S k) := ⟨⟨lay, home, ff, xe, jput_at, (jput_ne (by omega)).trans u2, u5, u3, u6, u7⟩, setG_W (w := 1) (v := k) u4 (fun e9 => by omega) (fun e9 => by omega) (fun e9 => by omega) (by decide)⟩
      have hk9 : kept M1 (jput (M1) (c + 3) (.inr (9, [.ref (c + 3 + 1), .int (nI (sRecs S).length), .ref lay, .ref home, .int (nI (k)), .int (nI (sPol S)), .int (nI (sOut S)), .int (nI (sLim S))]))) (fun a => a = c + 3 ∨ a = c + 3 + 1) := fun a o ha hn => (jput_ne (fun e9 => hn (Or.inl e9))).trans ha
      have hz9 : sub Z (jput (M1) (c + 3) (.inr (9, [.ref (c + 3 + 1), .int (nI (sRecs S).length), .ref lay, .ref home, .int (nI (k)), .int (nI (sPol S)), .int (nI (sOut S)), .int (nI (sLim S))]))).1 := kept.sub hk9 hz (fun a e9 => by rcases e9 with e9 | e9 <;> rw [e9] <;> assumption)
      have hJ9 := hJ1.set (Z' := Z) (M' := jput (M1) (c + 3) (.inr (9, [.ref (c + 3 + 1), .int (nI (sRecs S).length), .ref lay, .ref home, .int (nI (k)), .int (nI (sPol S)), .int (nI (sOut S)), .int (nI (sLim S))]))) (S' := withKeys S k) hS9 zg_refl hz9 hk9
      have hkf : kept M (jput (M1) (c + 3) (.inr (9, [.ref (c + 3 + 1), .int (nI (sRecs S).length), .ref lay, .ref home, .int (nI (k)), .int (nI (sPol S)), .int (nI (sOut S)), .int (nI (sLim S))]))) (fun a => a = v ∨ (c ≤ a ∧ a < c + 120)) := fun a o ha hn => hk9 _ _ (hk1 _ _ ha (fun (e9 : a = c ∨ a = c + 13 ∨ (c + 80 ≤ a ∧ a < c + 119)) => hn (show _ ∨ _ from by omega))) (fun (e9 : a = c + 3 ∨ a = c + 3 + 1) => hn (show _ ∨ _ from by omega))
      exact j_iret hC9 rfl (rfl) dX9_setKeys_42 (cr_of (T' := (withKeys S k, (keepP P S), V, b, e, u)) ((set_0 (T := (S, P, V, b, e, u)) (w := 1) hin).trans (by rw [toN_nI (by omega)]; rfl)) (cQ_of hJ9 hkf zg_refl))
    · exact j_throwSW hC9 (i := 28) rfl kt_X9_69 rfl dX9_setKeys_10 dX9_setKeys_13 dX9_setKeys_14 dX9_setKeys_17 dX9_setKeys_20 (by decide) (by decide) (by decide) (Nat.le_of_ble_eq_true rfl) (fun n9 => cx_of (k := 0) (x := nI 0) (T' := (S, P, V, b, e, u)) (set_1 (by first | exact out_lt (by assumption) | exact out_ge (by decide) (by assumption) | exact out_le (by assumption))) rfl (cQ_same h rfl))
set_option maxHeartbeats 4000000 in
set_option maxRecDepth 100000 in
theorem m_X9_setPolicy {G : jG} {M : jM} {c v : Nat} {S : aSet} {P : List aSet} {V : Option aSet} {b : List Nat} {e : Option Nat} {u : Option aRun} {Z : jH} {q : Int32} (hs : (gL G).stackTraces = false) (h : cJ G M Z c v S P V b e u)  : JMet G jX9_setPolicy [.ref c, .int q] (M) 1 6 7 (COq G M Z c v (opSets 2 0 2 q) (S, P, V, b, e, u)) (COx G M Z c v (opSets 2 0 2 q) ["java/lang/IllegalArgumentException"] (S, P, V, b, e, u)) := by
  refine jMet_of [some (.ref (c)), some (.int (q)), none] (by decide) rfl (Nat.le_of_ble_eq_true rfl) (rfl) hs ?_
  intro C hC9 hG
  have hC := hC9.z
  have hs9 := jOK0_tr hC
  refine j_lt (fun hlt => ?_)
  have hBg : jB C = gB G := by rw [jB, hG]
  subst hG
  obtain ⟨⟨a1, za⟩, ⟨⟨cap, hbu⟩, zb1, zbv, hv, hb120, hbc⟩, ⟨hS, zs3, zs4⟩, ⟨hVX, zv8, zv9, hVs⟩, ⟨pa, hPa⟩, ⟨ho, zo, hon⟩, ⟨⟨dX, dk, dr, dl, dch, hd⟩, zd⟩, ⟨⟨od, hod⟩, zn79⟩, ⟨hz, hkr, hBc, ⟨mk, hmk⟩⟩, hP8, hE⟩ := id h
  obtain ⟨p1, zp13, p3, p4, p5, p6⟩ := id hPa
  obtain ⟨⟨mb, bu, hb1, hb2, hb3, hb4, hb5⟩, hb6, hb7⟩ := id hbu
  obtain ⟨⟨lay, home, ff, xe, u1, u2, u5, u3, u6, u7⟩, u4⟩ := id hS
  obtain ⟨ho1, ho2, ho3, ho4, ho5⟩ := id ho
  have hn20 : (sRecs S).length ≤ 20 := u4.1.1
  have hk32 : sKeys S < 32 := u4.1.2.1
  have hp3 : sPol S < 3 := u4.1.2.2.1
  have ho10 : sOut S < 1024 := u4.1.2.2.2.1
  have hl2 : sLim S ≤ 200 := u4.1.2.2.2.2.1.2
  have hl1 : 1 ≤ sLim S := u4.1.2.2.2.2.1.1
  have hmk9 := hlt _ _ hmk
  refine j_iload_n hC dX9_setPolicy_0 rfl ?_
  refine j_if_lt (tgt := 9) hC dX9_setPolicy_1 (by decide) (fun c1 => ?_) (fun c1 => ?_)
  · exact j_throwSW hC9 (i := 29) rfl kt_X9_69 rfl dX9_setPolicy_9 dX9_setPolicy_12 dX9_setPolicy_13 dX9_setPolicy_16 dX9_setPolicy_19 (by decide) (by decide) (by decide) (Nat.le_of_ble_eq_true rfl) (fun n9 => cx_of (k := 0) (x := nI 0) (T' := (S, P, V, b, e, u)) (set_1 (by first | exact out_lt (by assumption) | exact out_ge (by decide) (by assumption) | exact out_le (by assumption))) rfl (cQ_same h rfl))
  · refine j_iload_n hC dX9_setPolicy_4 rfl ?_
    refine j_iconst (v := nI 2) hC dX9_setPolicy_5 (by decide) ?_
    refine j_icmp_le (tgt := 20) hC dX9_setPolicy_6 (by decide) (fun c2 => ?_) (fun c2 => ?_)
    · have hin : nI 0 ≤ q ∧ q ≤ nI 2 := in_2 (by assumption) (by assumption)
      obtain ⟨k, hk0, hk, rfl⟩ := in_ab hin (by decide) (by decide)
      refine j_aload_n hC dX9_setPolicy_20 rfl (jrf_ref _) ?_
      refine c_Pv (kc := 1) (ks := 6) hC kv_X9_100 dX9_setPolicy_21 (m_X9_remember hs9 h) (a1) rfl rfl rfl rfl (by decide) (Nat.le_of_ble_eq_true rfl) ?_
      intro v9 M1 h9
      obtain ⟨rfl, hJ1, hk1⟩ := h9
      refine j_lt (fun hlt1 => ?_)
      obtain ⟨⟨a1, za⟩, ⟨⟨cap, hbu⟩, zb1, zbv, hv, hb120, hbc⟩, ⟨hS, zs3, zs4⟩, ⟨hVX, zv8, zv9, hVs⟩, ⟨pa, hPa⟩, ⟨ho, zo, hon⟩, ⟨⟨dX, dk, dr, dl, dch, hd⟩, zd⟩, ⟨⟨od, hod⟩, zn79⟩, ⟨hz, hkr, hBc, ⟨mk, hmk⟩⟩, hP8, hE⟩ := id hJ1
      obtain ⟨p1, zp13, p3, p4, p5, p6⟩ := id hPa
      obtain ⟨⟨mb, bu, hb1, hb2, hb3, hb4, hb5⟩, hb6, hb7⟩ := id hbu
      obtain ⟨⟨lay, home, ff, xe, u1, u2, u5, u3, u6, u7⟩, u4⟩ := id hS
      obtain ⟨ho1, ho2, ho3, ho4, ho5⟩ := id ho
      have hn20 : (sRecs S).length ≤ 20 := u4.1.1
      have hk32 : sKeys S < 32 := u4.1.2.1
      have hp3 : sPol S < 3 := u4.1.2.2.1
      have ho10 : sOut S < 1024 := u4.1.2.2.2.1
      have hl2 : sLim S ≤ 200 := u4.1.2.2.2.2.1.2
      have hl1 : 1 ≤ sLim S := u4.1.2.2.2.2.1.1
      have hmk9 := hlt1 _ _ hmk
      refine j_aload_n hC dX9_setPolicy_24 rfl (jrf_ref _) ?_
      refine j_get (v := .ref (c + 3)) hC kf_X9_19 dX9_setPolicy_25 (a1) (rfl) ?_
      refine j_get (v := .int (nI (sPol S))) hC kf_X9_269 dX9_setPolicy_28 (u1) (rfl) ?_
      refine j_istore_n2 hC dX9_setPolicy_31 (by decide) rfl ?_
      refine j_aload_n hC dX9_setPolicy_32 rfl (jrf_ref _) ?_
      refine j_get (v := .ref (c + 3)) hC kf_X9_19 dX9_setPolicy_33 (a1) (rfl) ?_
      refine j_iload_n hC dX9_setPolicy_36 rfl ?_
      refine c_put (fs' := [.ref (c + 3 + 1), .int (nI (sRecs S).length), .ref lay, .ref home, .int (nI (sKeys S)), .int (nI (k)), .int (nI (sOut S)), .int (nI (sLim S))]) hC kp_X9_269 dX9_setPolicy_37 (u1) (by omega) (rfl) (rfl) rfl ?_
      refine j_iload_n hC dX9_setPolicy_40 rfl ?_
      have hS9 : suR (jput (M1) (c + 3) (.inr (9, [.ref (c + 3 + 1), .int (nI (sRecs S).length), .ref lay, .ref home, .int (nI (sKeys S)), .int (nI (k)), .int (nI (sOut S)), .int (nI (sLim S))]))).1 Z (c + 3) (withPol S k) := ⟨⟨lay, home, ff, xe, jput_at, (jput_ne (by omega)).trans u2, u5, u3, u6, u7⟩, setG_W (w := 2) (v := k) u4 (fun e9 => by omega) (fun e9 => by omega) (fun e9 => by omega) (by decide)⟩
      have hk9 : kept M1 (jput (M1) (c + 3) (.inr (9, [.ref (c + 3 + 1), .int (nI (sRecs S).length), .ref lay, .ref home, .int (nI (sKeys S)), .int (nI (k)), .int (nI (sOut S)), .int (nI (sLim S))]))) (fun a => a = c + 3 ∨ a = c + 3 + 1) := fun a o ha hn => (jput_ne (fun e9 => hn (Or.inl e9))).trans ha
      have hz9 : sub Z (jput (M1) (c + 3) (.inr (9, [.ref (c + 3 + 1), .int (nI (sRecs S).length), .ref lay, .ref home, .int (nI (sKeys S)), .int (nI (k)), .int (nI (sOut S)), .int (nI (sLim S))]))).1 := kept.sub hk9 hz (fun a e9 => by rcases e9 with e9 | e9 <;> rw [e9] <;> assumption)
      have hJ9 := hJ1.set (Z' := Z) (M' := jput (M1) (c + 3) (.inr (9, [.ref (c + 3 + 1), .int (nI (sRecs S).length), .ref lay, .ref home, .int (nI (sKeys S)), .int (nI (k)), .int (nI (sOut S)), .int (nI (sLim S))]))) (S' := withPol S k) hS9 zg_refl hz9 hk9
      have hkf : kept M (jput (M1) (c + 3) (.inr (9, [.ref (c + 3 + 1), .int (nI (sRecs S).length), .ref lay, .ref home, .int (nI (sKeys S)), .int (nI (k)), .int (nI (sOut S)), .int (nI (sLim S))]))) (fun a => a = v ∨ (c ≤ a ∧ a < c + 120)) := fun a o ha hn => hk9 _ _ (hk1 _ _ ha (fun (e9 : a = c ∨ a = c + 13 ∨ (c + 80 ≤ a ∧ a < c + 119)) => hn (show _ ∨ _ from by omega))) (fun (e9 : a = c + 3 ∨ a = c + 3 + 1) => hn (show _ ∨ _ from by omega))
      exact j_iret hC9 rfl (rfl) dX9_setPolicy_41 (cr_of (T' := (withPol S k, (keepP P S), V, b, e, u)) ((set_0 (T := (S, P, V, b, e, u)) (w := 2) hin).trans (by rw [toN_nI (by omega)]; rfl)) (cQ_of hJ9 hkf zg_refl))
    · exact j_throwSW hC9 (i := 29) rfl kt_X9_69 rfl dX9_setPolicy_9 dX9_setPolicy_12 dX9_setPolicy_13 dX9_setPolicy_16 dX9_setPolicy_19 (by decide) (by decide) (by decide) (Nat.le_of_ble_eq_true rfl) (fun n9 => cx_of (k := 0) (x := nI 0) (T' := (S, P, V, b, e, u)) (set_1 (by first | exact out_lt (by assumption) | exact out_ge (by decide) (by assumption) | exact out_le (by assumption))) rfl (cQ_same h rfl))
set_option maxHeartbeats 4000000 in
set_option maxRecDepth 100000 in
theorem m_X9_setLimit {G : jG} {M : jM} {c v : Nat} {S : aSet} {P : List aSet} {V : Option aSet} {b : List Nat} {e : Option Nat} {u : Option aRun} {Z : jH} {q : Int32} (hs : (gL G).stackTraces = false) (h : cJ G M Z c v S P V b e u)  : JMet G jX9_setLimit [.ref c, .int q] (M) 1 6 7 (COq G M Z c v (opSets 4 1 200 q) (S, P, V, b, e, u)) (COx G M Z c v (opSets 4 1 200 q) ["java/lang/IllegalArgumentException"] (S, P, V, b, e, u)) := by
  refine jMet_of [some (.ref (c)), some (.int (q)), none] (by decide) rfl (Nat.le_of_ble_eq_true rfl) (rfl) hs ?_
  intro C hC9 hG
  have hC := hC9.z
  have hs9 := jOK0_tr hC
  refine j_lt (fun hlt => ?_)
  have hBg : jB C = gB G := by rw [jB, hG]
  subst hG
  obtain ⟨⟨a1, za⟩, ⟨⟨cap, hbu⟩, zb1, zbv, hv, hb120, hbc⟩, ⟨hS, zs3, zs4⟩, ⟨hVX, zv8, zv9, hVs⟩, ⟨pa, hPa⟩, ⟨ho, zo, hon⟩, ⟨⟨dX, dk, dr, dl, dch, hd⟩, zd⟩, ⟨⟨od, hod⟩, zn79⟩, ⟨hz, hkr, hBc, ⟨mk, hmk⟩⟩, hP8, hE⟩ := id h
  obtain ⟨p1, zp13, p3, p4, p5, p6⟩ := id hPa
  obtain ⟨⟨mb, bu, hb1, hb2, hb3, hb4, hb5⟩, hb6, hb7⟩ := id hbu
  obtain ⟨⟨lay, home, ff, xe, u1, u2, u5, u3, u6, u7⟩, u4⟩ := id hS
  obtain ⟨ho1, ho2, ho3, ho4, ho5⟩ := id ho
  have hn20 : (sRecs S).length ≤ 20 := u4.1.1
  have hk32 : sKeys S < 32 := u4.1.2.1
  have hp3 : sPol S < 3 := u4.1.2.2.1
  have ho10 : sOut S < 1024 := u4.1.2.2.2.1
  have hl2 : sLim S ≤ 200 := u4.1.2.2.2.2.1.2
  have hl1 : 1 ≤ sLim S := u4.1.2.2.2.2.1.1
  have hmk9 := hlt _ _ hmk
  refine j_iload_n hC dX9_setLimit_0 rfl ?_
  refine j_iconst (v := nI 1) hC dX9_setLimit_1 (by decide) ?_
  refine j_icmp_lt (tgt := 12) hC dX9_setLimit_2 (by decide) (fun c1 => ?_) (fun c1 => ?_)
  · exact j_throwSW hC9 (i := 31) rfl kt_X9_69 rfl dX9_setLimit_12 dX9_setLimit_15 dX9_setLimit_16 dX9_setLimit_19 dX9_setLimit_22 (by decide) (by decide) (by decide) (Nat.le_of_ble_eq_true rfl) (fun n9 => cx_of (k := 0) (x := nI 0) (T' := (S, P, V, b, e, u)) (set_1 (by first | exact out_lt (by assumption) | exact out_ge (by decide) (by assumption) | exact out_le (by assumption))) rfl (cQ_same h rfl))
  · refine j_iload_n hC dX9_setLimit_5 rfl ?_
    refine j_sipush (v := nI 200) hC dX9_setLimit_6 (by decide) ?_
    refine j_icmp_le (tgt := 23) hC dX9_setLimit_9 (by decide) (fun c2 => ?_) (fun c2 => ?_)
    · have hin : nI 1 ≤ q ∧ q ≤ nI 200 := in_2 (by assumption) (by assumption)
      obtain ⟨k, hk0, hk, rfl⟩ := in_ab hin (by decide) (by decide)
      refine j_aload_n hC dX9_setLimit_23 rfl (jrf_ref _) ?_
      refine c_Pv (kc := 1) (ks := 6) hC kv_X9_100 dX9_setLimit_24 (m_X9_remember hs9 h) (a1) rfl rfl rfl rfl (by decide) (Nat.le_of_ble_eq_true rfl) ?_
      intro v9 M1 h9
      obtain ⟨rfl, hJ1, hk1⟩ := h9
      refine j_lt (fun hlt1 => ?_)
      obtain ⟨⟨a1, za⟩, ⟨⟨cap, hbu⟩, zb1, zbv, hv, hb120, hbc⟩, ⟨hS, zs3, zs4⟩, ⟨hVX, zv8, zv9, hVs⟩, ⟨pa, hPa⟩, ⟨ho, zo, hon⟩, ⟨⟨dX, dk, dr, dl, dch, hd⟩, zd⟩, ⟨⟨od, hod⟩, zn79⟩, ⟨hz, hkr, hBc, ⟨mk, hmk⟩⟩, hP8, hE⟩ := id hJ1
      obtain ⟨p1, zp13, p3, p4, p5, p6⟩ := id hPa
      obtain ⟨⟨mb, bu, hb1, hb2, hb3, hb4, hb5⟩, hb6, hb7⟩ := id hbu
      obtain ⟨⟨lay, home, ff, xe, u1, u2, u5, u3, u6, u7⟩, u4⟩ := id hS
      obtain ⟨ho1, ho2, ho3, ho4, ho5⟩ := id ho
      have hn20 : (sRecs S).length ≤ 20 := u4.1.1
      have hk32 : sKeys S < 32 := u4.1.2.1
      have hp3 : sPol S < 3 := u4.1.2.2.1
      have ho10 : sOut S < 1024 := u4.1.2.2.2.1
      have hl2 : sLim S ≤ 200 := u4.1.2.2.2.2.1.2
      have hl1 : 1 ≤ sLim S := u4.1.2.2.2.2.1.1
      have hmk9 := hlt1 _ _ hmk
      refine j_aload_n hC dX9_setLimit_27 rfl (jrf_ref _) ?_
      refine j_get (v := .ref (c + 3)) hC kf_X9_19 dX9_setLimit_28 (a1) (rfl) ?_
      refine j_get (v := .int (nI (sLim S))) hC kf_X9_282 dX9_setLimit_31 (u1) (rfl) ?_
      refine j_istore_n2 hC dX9_setLimit_34 (by decide) rfl ?_
      refine j_aload_n hC dX9_setLimit_35 rfl (jrf_ref _) ?_
      refine j_get (v := .ref (c + 3)) hC kf_X9_19 dX9_setLimit_36 (a1) (rfl) ?_
      refine j_iload_n hC dX9_setLimit_39 rfl ?_
      refine c_put (fs' := [.ref (c + 3 + 1), .int (nI (sRecs S).length), .ref lay, .ref home, .int (nI (sKeys S)), .int (nI (sPol S)), .int (nI (sOut S)), .int (nI (k))]) hC kp_X9_282 dX9_setLimit_40 (u1) (by omega) (rfl) (rfl) rfl ?_
      refine j_iload_n hC dX9_setLimit_43 rfl ?_
      have hS9 : suR (jput (M1) (c + 3) (.inr (9, [.ref (c + 3 + 1), .int (nI (sRecs S).length), .ref lay, .ref home, .int (nI (sKeys S)), .int (nI (sPol S)), .int (nI (sOut S)), .int (nI (k))]))).1 Z (c + 3) (withLim S k) := ⟨⟨lay, home, ff, xe, jput_at, (jput_ne (by omega)).trans u2, u5, u3, u6, u7⟩, setG_W (w := 4) (v := k) u4 (fun e9 => by omega) (fun e9 => by omega) (fun e9 => by omega) (by decide)⟩
      have hk9 : kept M1 (jput (M1) (c + 3) (.inr (9, [.ref (c + 3 + 1), .int (nI (sRecs S).length), .ref lay, .ref home, .int (nI (sKeys S)), .int (nI (sPol S)), .int (nI (sOut S)), .int (nI (k))]))) (fun a => a = c + 3 ∨ a = c + 3 + 1) := fun a o ha hn => (jput_ne (fun e9 => hn (Or.inl e9))).trans ha
      have hz9 : sub Z (jput (M1) (c + 3) (.inr (9, [.ref (c + 3 + 1), .int (nI (sRecs S).length), .ref lay, .ref home, .int (nI (sKeys S)), .int (nI (sPol S)), .int (nI (sOut S)), .int (nI (k))]))).1 := kept.sub hk9 hz (fun a e9 => by rcases e9 with e9 | e9 <;> rw [e9] <;> assumption)
      have hJ9 := hJ1.set (Z' := Z) (M' := jput (M1) (c + 3) (.inr (9, [.ref (c + 3 + 1), .int (nI (sRecs S).length), .ref lay, .ref home, .int (nI (sKeys S)), .int (nI (sPol S)), .int (nI (sOut S)), .int (nI (k))]))) (S' := withLim S k) hS9 zg_refl hz9 hk9
      have hkf : kept M (jput (M1) (c + 3) (.inr (9, [.ref (c + 3 + 1), .int (nI (sRecs S).length), .ref lay, .ref home, .int (nI (sKeys S)), .int (nI (sPol S)), .int (nI (sOut S)), .int (nI (k))]))) (fun a => a = v ∨ (c ≤ a ∧ a < c + 120)) := fun a o ha hn => hk9 _ _ (hk1 _ _ ha (fun (e9 : a = c ∨ a = c + 13 ∨ (c + 80 ≤ a ∧ a < c + 119)) => hn (show _ ∨ _ from by omega))) (fun (e9 : a = c + 3 ∨ a = c + 3 + 1) => hn (show _ ∨ _ from by omega))
      exact j_iret hC9 rfl (rfl) dX9_setLimit_44 (cr_of (T' := (withLim S k, (keepP P S), V, b, e, u)) ((set_0 (T := (S, P, V, b, e, u)) (w := 4) hin).trans (by rw [toN_nI (by omega)]; rfl)) (cQ_of hJ9 hkf zg_refl))
    · exact j_throwSW hC9 (i := 31) rfl kt_X9_69 rfl dX9_setLimit_12 dX9_setLimit_15 dX9_setLimit_16 dX9_setLimit_19 dX9_setLimit_22 (by decide) (by decide) (by decide) (Nat.le_of_ble_eq_true rfl) (fun n9 => cx_of (k := 0) (x := nI 0) (T' := (S, P, V, b, e, u)) (set_1 (by first | exact out_lt (by assumption) | exact out_ge (by decide) (by assumption) | exact out_le (by assumption))) rfl (cQ_same h rfl))
theorem ex_bits : ∀ g, g < 10 → ∀ n, n < 1024 → nI n &&& (nI 1 <<< (nI g &&& 31)) = nI (if n.testBit g = true then 2 ^ g else 0) ∧ nI n ||| (nI 1 <<< (nI g &&& 31)) = nI (newOut n g true) ∧ nI n &&& ((nI 1 <<< (nI g &&& 31)) ^^^ zI (-1)) = nI (newOut n g false) := by decide +kernel
theorem pow_0 {g : Nat} : ¬ 2 ^ g = 0 := Nat.pos_iff_ne_zero.mp (Nat.two_pow_pos g)
theorem bit_t {p : Bool} {g : Nat} (h : ¬ (if p = true then 2 ^ g else 0) = 0) : p = true := by
  cases p with
  | true => rfl
  | false => exact absurd (if_neg (by decide)) h
theorem bit_f {p : Bool} {g : Nat} (h : (if p = true then 2 ^ g else 0) = 0) : ¬ p = true := fun e => by
  rw [if_pos e] at h
  exact pow_0 h
set_option maxHeartbeats 4000000 in
set_option maxRecDepth 100000 in
theorem m_X9_exclude {G : jG} {M : jM} {c v : Nat} {S : aSet} {P : List aSet} {V : Option aSet} {b : List Nat} {e : Option Nat} {u : Option aRun} {Z : jH} {g : Int32} {q : Bool} (hs : (gL G).stackTraces = false) (h : cJ G M Z c v S P V b e u)  : JMet G jX9_exclude [.ref c, .int g, .int (jb (q = true))] (M) 1 6 7 (COq G M Z c v (opExclude g q) (S, P, V, b, e, u)) (COx G M Z c v (opExclude g q) ["java/lang/IndexOutOfBoundsException"] (S, P, V, b, e, u)) := by
  refine jMet_of [some (.ref (c)), some (.int (g)), some (.int (jb (q = true))), none, none] (by decide) rfl (Nat.le_of_ble_eq_true rfl) (rfl) hs ?_
  intro C hC9 hG
  have hC := hC9.z
  have hs9 := jOK0_tr hC
  refine j_lt (fun hlt => ?_)
  have hBg : jB C = gB G := by rw [jB, hG]
  subst hG
  obtain ⟨⟨a1, za⟩, ⟨⟨cap, hbu⟩, zb1, zbv, hv, hb120, hbc⟩, ⟨hS, zs3, zs4⟩, ⟨hVX, zv8, zv9, hVs⟩, ⟨pa, hPa⟩, ⟨ho, zo, hon⟩, ⟨⟨dX, dk, dr, dl, dch, hd⟩, zd⟩, ⟨⟨od, hod⟩, zn79⟩, ⟨hz, hkr, hBc, ⟨mk, hmk⟩⟩, hP8, hE⟩ := id h
  obtain ⟨p1, zp13, p3, p4, p5, p6⟩ := id hPa
  obtain ⟨⟨mb, bu, hb1, hb2, hb3, hb4, hb5⟩, hb6, hb7⟩ := id hbu
  obtain ⟨⟨lay, home, ff, xe, u1, u2, u5, u3, u6, u7⟩, u4⟩ := id hS
  obtain ⟨ho1, ho2, ho3, ho4, ho5⟩ := id ho
  have hn20 : (sRecs S).length ≤ 20 := u4.1.1
  have hk32 : sKeys S < 32 := u4.1.2.1
  have hp3 : sPol S < 3 := u4.1.2.2.1
  have ho10 : sOut S < 1024 := u4.1.2.2.2.1
  have hl2 : sLim S ≤ 200 := u4.1.2.2.2.2.1.2
  have hl1 : 1 ≤ sLim S := u4.1.2.2.2.2.1.1
  have hmk9 := hlt _ _ hmk
  refine j_iload_n hC dX9_exclude_0 rfl ?_
  refine c_S hC ks_X9_89 rfl dX9_exclude_1 (m_X9_isGroup hs9) rfl rfl (by decide) (Nat.le_of_ble_eq_true rfl) ?_
  refine jb_if_ne (tgt := 18) hC dX9_exclude_4 (by decide) (fun c1 => ?_) (fun c1 => ?_)
  · obtain ⟨g9, hg9, rfl⟩ := jin_of (by assumption : jin g 10 = true) (by decide)
    refine j_aload_n hC dX9_exclude_18 rfl (jrf_ref _) ?_
    refine c_Pv (kc := 1) (ks := 6) hC kv_X9_100 dX9_exclude_19 (m_X9_remember hs9 h) (a1) rfl rfl rfl rfl (by decide) (Nat.le_of_ble_eq_true rfl) ?_
    intro v9 M1 h9
    obtain ⟨rfl, hJ1, hk1⟩ := h9
    refine j_lt (fun hlt1 => ?_)
    obtain ⟨⟨a1, za⟩, ⟨⟨cap, hbu⟩, zb1, zbv, hv, hb120, hbc⟩, ⟨hS, zs3, zs4⟩, ⟨hVX, zv8, zv9, hVs⟩, ⟨pa, hPa⟩, ⟨ho, zo, hon⟩, ⟨⟨dX, dk, dr, dl, dch, hd⟩, zd⟩, ⟨⟨od, hod⟩, zn79⟩, ⟨hz, hkr, hBc, ⟨mk, hmk⟩⟩, hP8, hE⟩ := id hJ1
    obtain ⟨p1, zp13, p3, p4, p5, p6⟩ := id hPa
    obtain ⟨⟨mb, bu, hb1, hb2, hb3, hb4, hb5⟩, hb6, hb7⟩ := id hbu
    obtain ⟨⟨lay, home, ff, xe, u1, u2, u5, u3, u6, u7⟩, u4⟩ := id hS
    obtain ⟨ho1, ho2, ho3, ho4, ho5⟩ := id ho
    have hn20 : (sRecs S).length ≤ 20 := u4.1.1
    have hk32 : sKeys S < 32 := u4.1.2.1
    have hp3 : sPol S < 3 := u4.1.2.2.1
    have ho10 : sOut S < 1024 := u4.1.2.2.2.1
    have hl2 : sLim S ≤ 200 := u4.1.2.2.2.2.1.2
    have hl1 : 1 ≤ sLim S := u4.1.2.2.2.2.1.1
    have hmk9 := hlt1 _ _ hmk
    refine j_iconst (v := nI 1) hC dX9_exclude_22 (by decide) ?_
    refine j_iload_n hC dX9_exclude_23 rfl ?_
    refine j_ishl hC dX9_exclude_24 ?_
    refine j_istore_n3 hC dX9_exclude_25 (by decide) rfl ?_
    suffices K : J C (M1) 1 6 43 [some (.ref (c)), some (.int (nI (g9))), some (.int (jb (q = true))), some (.int ((nI (1) <<< (nI (g9) &&& 31)))), none] [.int (jb ((sOut S).testBit g9 = true))] by
      refine j_aload_n hC dX9_exclude_26 rfl (jrf_ref _) ?_
      refine j_get (v := .ref (c + 3)) hC kf_X9_19 dX9_exclude_27 (a1) (rfl) ?_
      refine j_get (v := .int (nI (sOut S))) hC kf_X9_277 dX9_exclude_30 (u1) (rfl) ?_
      refine j_iload_n hC dX9_exclude_33 rfl ?_
      refine j_iand hC dX9_exclude_34 ?_
      refine j_top (ex_bits g9 hg9 (sOut S) ho10).1 ?_
      have hb9 : (if (sOut S).testBit g9 = true then 2 ^ g9 else 0) < 2 ^ 31 := by
        have h2 : 2 ^ g9 ≤ 2 ^ 9 := Nat.pow_le_pow_right (by decide) (by omega)
        split <;> omega
      refine n_if_eq (tgt := 42) hC dX9_exclude_35 (by decide) (by omega) (fun c2 => ?_) (fun c2 => ?_)
      · refine j_iconst (v := nI 0) hC dX9_exclude_42 (by decide) ?_
        exact j_top (jb_f0 (bit_f (by assumption))) K
      · refine j_iconst (v := nI 1) hC dX9_exclude_38 (by decide) ?_
        refine j_goto (tgt := 43) hC dX9_exclude_39 (by decide) ?_
        exact j_top (jb_t1 (bit_t (by assumption))) K
    refine j_istore_4 hC dX9_exclude_43 (by decide) rfl ?_
    refine j_aload_n hC dX9_exclude_45 rfl (jrf_ref _) ?_
    refine j_get (v := .ref (c + 3)) hC kf_X9_19 dX9_exclude_46 (a1) (rfl) ?_
    suffices K : J C (M1) 1 6 76 [some (.ref (c)), some (.int (nI (g9))), some (.int (jb (q = true))), some (.int ((nI (1) <<< (nI (g9) &&& 31)))), some (.int (jb ((sOut S).testBit g9 = true)))] [.int (nI (newOut (sOut S) g9 q)), .ref (c + 3)] by
      refine j_iload_n hC dX9_exclude_49 rfl ?_
      refine jb_if_eq (tgt := 65) hC dX9_exclude_50 (by decide) (fun c3 => ?_) (fun c3 => ?_)
      · refine j_aload_n hC dX9_exclude_65 rfl (jrf_ref _) ?_
        refine j_get (v := .ref (c + 3)) hC kf_X9_19 dX9_exclude_66 (a1) (rfl) ?_
        refine j_get (v := .int (nI (sOut S))) hC kf_X9_277 dX9_exclude_69 (u1) (rfl) ?_
        refine j_iload_n hC dX9_exclude_72 rfl ?_
        refine j_iconst (v := zI (-1)) hC dX9_exclude_73 (by decide) ?_
        refine j_ixor hC dX9_exclude_74 ?_
        refine j_iand hC dX9_exclude_75 ?_
        exact j_top (by first | rw [(ex_bits g9 hg9 (sOut S) ho10).2.1, (by assumption : q = true)] | (rw [(ex_bits g9 hg9 (sOut S) ho10).2.2]; cases q with | true => contradiction | false => rfl)) K
      · refine j_aload_n hC dX9_exclude_53 rfl (jrf_ref _) ?_
        refine j_get (v := .ref (c + 3)) hC kf_X9_19 dX9_exclude_54 (a1) (rfl) ?_
        refine j_get (v := .int (nI (sOut S))) hC kf_X9_277 dX9_exclude_57 (u1) (rfl) ?_
        refine j_iload_n hC dX9_exclude_60 rfl ?_
        refine j_ior hC dX9_exclude_61 ?_
        refine j_goto (tgt := 76) hC dX9_exclude_62 (by decide) ?_
        exact j_top (by first | rw [(ex_bits g9 hg9 (sOut S) ho10).2.1, (by assumption : q = true)] | (rw [(ex_bits g9 hg9 (sOut S) ho10).2.2]; cases q with | true => contradiction | false => rfl)) K
    refine c_put (fs' := [.ref (c + 3 + 1), .int (nI (sRecs S).length), .ref lay, .ref home, .int (nI (sKeys S)), .int (nI (sPol S)), .int (nI (newOut (sOut S) g9 q)), .int (nI (sLim S))]) hC kp_X9_277 dX9_exclude_76 (u1) (by omega) (rfl) (rfl) rfl ?_
    refine j_iload hC dX9_exclude_79 rfl ?_
    have hS9 : suR (jput (M1) (c + 3) (.inr (9, [.ref (c + 3 + 1), .int (nI (sRecs S).length), .ref lay, .ref home, .int (nI (sKeys S)), .int (nI (sPol S)), .int (nI (newOut (sOut S) g9 q)), .int (nI (sLim S))]))).1 Z (c + 3) (withOut S (newOut (sOut S) g9 q)) := ⟨⟨lay, home, ff, xe, jput_at, (jput_ne (by omega)).trans u2, u5, u3, u6, u7⟩, setG_out u4 (newOut_lt ho10 hg9)⟩
    have hk9 : kept M1 (jput (M1) (c + 3) (.inr (9, [.ref (c + 3 + 1), .int (nI (sRecs S).length), .ref lay, .ref home, .int (nI (sKeys S)), .int (nI (sPol S)), .int (nI (newOut (sOut S) g9 q)), .int (nI (sLim S))]))) (fun a => a = c + 3 ∨ a = c + 3 + 1) := fun a o ha hn => (jput_ne (fun e9 => hn (Or.inl e9))).trans ha
    have hz9 : sub Z (jput (M1) (c + 3) (.inr (9, [.ref (c + 3 + 1), .int (nI (sRecs S).length), .ref lay, .ref home, .int (nI (sKeys S)), .int (nI (sPol S)), .int (nI (newOut (sOut S) g9 q)), .int (nI (sLim S))]))).1 := kept.sub hk9 hz (fun a e9 => by rcases e9 with e9 | e9 <;> rw [e9] <;> assumption)
    have hJ9 := hJ1.set (Z' := Z) (M' := jput (M1) (c + 3) (.inr (9, [.ref (c + 3 + 1), .int (nI (sRecs S).length), .ref lay, .ref home, .int (nI (sKeys S)), .int (nI (sPol S)), .int (nI (newOut (sOut S) g9 q)), .int (nI (sLim S))]))) (S' := withOut S (newOut (sOut S) g9 q)) hS9 zg_refl hz9 hk9
    have hkf : kept M (jput (M1) (c + 3) (.inr (9, [.ref (c + 3 + 1), .int (nI (sRecs S).length), .ref lay, .ref home, .int (nI (sKeys S)), .int (nI (sPol S)), .int (nI (newOut (sOut S) g9 q)), .int (nI (sLim S))]))) (fun a => a = v ∨ (c ≤ a ∧ a < c + 120)) := fun a o ha hn => hk9 _ _ (hk1 _ _ ha (fun (e9 : a = c ∨ a = c + 13 ∨ (c + 80 ≤ a ∧ a < c + 119)) => hn (show _ ∨ _ from by omega))) (fun (e9 : a = c + 3 ∨ a = c + 3 + 1) => hn (show _ ∨ _ from by omega))
    exact j_iret hC9 rfl (jb_nar) dX9_exclude_81 (cr_of (T' := (withOut S (newOut (sOut S) g9 q), (keepP P S), V, b, e, u)) (exc_0 (T := (S, P, V, b, e, u)) hg9) (cQ_of hJ9 hkf zg_refl))
  · exact j_throwSW hC9 (i := 30) rfl kt_X9_272 rfl dX9_exclude_7 dX9_exclude_10 dX9_exclude_11 dX9_exclude_14 dX9_exclude_17 (by decide) (by decide) (by decide) (Nat.le_of_ble_eq_true rfl) (fun n9 => cx_of (k := 0) (x := nI 0) (T' := (S, P, V, b, e, u)) (exc_1 (by assumption)) rfl (cQ_same h rfl))
set_option maxHeartbeats 4000000 in
set_option maxRecDepth 100000 in
theorem m_X9_setHome {G : jG} {M : jM} {c v : Nat} {S : aSet} {P : List aSet} {V : Option aSet} {b : List Nat} {e : Option Nat} {u : Option aRun} {Z : jH}  (hs : (gL G).stackTraces = false) (h : cJ G M Z c v S P V b e u)  : JMet G jX9_setHome [.ref c] (M) 3 131 8 (COq G M Z c v opHome (S, P, V, b, e, u)) (COx G M Z c v (opHome) ["java/lang/IllegalArgumentException"] (S, P, V, b, e, u)) := by
  refine jMet_of [some (.ref (c)), none, none] (by decide) rfl (Nat.le_of_ble_eq_true rfl) (rfl) hs ?_
  intro C hC9 hG
  have hC := hC9.z
  have hs9 := jOK0_tr hC
  refine j_lt (fun hlt => ?_)
  have hBg : jB C = gB G := by rw [jB, hG]
  subst hG
  obtain ⟨⟨a1, za⟩, ⟨⟨cap, hbu⟩, zb1, zbv, hv, hb120, hbc⟩, ⟨hS, zs3, zs4⟩, ⟨hVX, zv8, zv9, hVs⟩, ⟨pa, hPa⟩, ⟨ho, zo, hon⟩, ⟨⟨dX, dk, dr, dl, dch, hd⟩, zd⟩, ⟨⟨od, hod⟩, zn79⟩, ⟨hz, hkr, hBc, ⟨mk, hmk⟩⟩, hP8, hE⟩ := id h
  obtain ⟨p1, zp13, p3, p4, p5, p6⟩ := id hPa
  obtain ⟨⟨mb, bu, hb1, hb2, hb3, hb4, hb5⟩, hb6, hb7⟩ := id hbu
  obtain ⟨⟨lay, home, ff, xe, u1, u2, u5, u3, u6, u7⟩, u4⟩ := id hS
  obtain ⟨ho1, ho2, ho3, ho4, ho5⟩ := id ho
  have hn20 : (sRecs S).length ≤ 20 := u4.1.1
  have hk32 : sKeys S < 32 := u4.1.2.1
  have hp3 : sPol S < 3 := u4.1.2.2.1
  have ho10 : sOut S < 1024 := u4.1.2.2.2.1
  have hl2 : sLim S ≤ 200 := u4.1.2.2.2.2.1.2
  have hl1 : 1 ≤ sLim S := u4.1.2.2.2.2.1.1
  have hmk9 := hlt _ _ hmk
  refine j_aload_n hC dX9_setHome_0 rfl (jrf_ref _) ?_
  refine c_Tv (kc := 0) (ks := 0) hC9 rfl kv_X9_136 dX9_setHome_1 (m_X9_takeFieldText hs9 h) (a1) rfl rfl rfl rfl (by decide) (Nat.le_of_ble_eq_true rfl) (fun E9 M9 hx9 => ?_) ?_
  · obtain ⟨rfl, k, hk, Z2, hJ2, hg2, hk2⟩ := hx9
    exact cx_of (k := 0) (x := nI 0) (T' := (S, P, V, [], some k, u)) (hom_1 hk) rfl ⟨Z2, v, hJ2, hk2.wk (fun a (e9 : a = c ∨ a = c + 1) => (show _ ∨ _ from by omega)), Or.inl rfl, hg2.2⟩
  intro v9 M0 h9
  obtain ⟨p, Z1, rfl, hno, hJ0, hg0, htp, hk0⟩ := h9
  have hbw := wrong_ok hno
  have hbc0 := hbc
  refine j_lt (fun hlt0 => ?_)
  obtain ⟨⟨a1, za⟩, ⟨⟨cap, hbu⟩, zb1, zbv, hv, hb120, hbc⟩, ⟨hS, zs3, zs4⟩, ⟨hVX, zv8, zv9, hVs⟩, ⟨pa, hPa⟩, ⟨ho, zo, hon⟩, ⟨⟨dX, dk, dr, dl, dch, hd⟩, zd⟩, ⟨⟨od, hod⟩, zn79⟩, ⟨hz, hkr, hBc, ⟨mk, hmk⟩⟩, hP8, hE⟩ := id hJ0
  obtain ⟨p1, zp13, p3, p4, p5, p6⟩ := id hPa
  obtain ⟨⟨mb, bu, hb1, hb2, hb3, hb4, hb5⟩, hb6, hb7⟩ := id hbu
  obtain ⟨⟨lay, home, ff, xe, u1, u2, u5, u3, u6, u7⟩, u4⟩ := id hS
  obtain ⟨ho1, ho2, ho3, ho4, ho5⟩ := id ho
  have hn20 : (sRecs S).length ≤ 20 := u4.1.1
  have hk32 : sKeys S < 32 := u4.1.2.1
  have hp3 : sPol S < 3 := u4.1.2.2.1
  have ho10 : sOut S < 1024 := u4.1.2.2.2.1
  have hl2 : sLim S ≤ 200 := u4.1.2.2.2.2.1.2
  have hl1 : 1 ≤ sLim S := u4.1.2.2.2.2.1.1
  have hmk9 := hlt0 _ _ hmk
  refine j_astore_n1 hC dX9_setHome_4 (jrf_ref _) (by decide) rfl ?_
  refine j_aload_n hC dX9_setHome_5 rfl (jrf_ref _) ?_
  refine c_Pv (kc := 0) (ks := 0) hC kv_X9_100 dX9_setHome_6 (m_X9_remember hs9 hJ0) (a1) rfl rfl rfl rfl (by decide) (Nat.le_of_ble_eq_true rfl) ?_
  intro v9 M1 h9
  obtain ⟨rfl, hJ1, hk1⟩ := h9
  refine j_lt (fun hlt1 => ?_)
  obtain ⟨⟨a1, za⟩, ⟨⟨cap, hbu⟩, zb1, zbv, hv, hb120, hbc⟩, ⟨hS, zs3, zs4⟩, ⟨hVX, zv8, zv9, hVs⟩, ⟨pa, hPa⟩, ⟨ho, zo, hon⟩, ⟨⟨dX, dk, dr, dl, dch, hd⟩, zd⟩, ⟨⟨od, hod⟩, zn79⟩, ⟨hz, hkr, hBc, ⟨mk, hmk⟩⟩, hP8, hE⟩ := id hJ1
  obtain ⟨p1, zp13, p3, p4, p5, p6⟩ := id hPa
  obtain ⟨⟨mb, bu, hb1, hb2, hb3, hb4, hb5⟩, hb6, hb7⟩ := id hbu
  obtain ⟨⟨lay, home, ff, xe, u1, u2, u5, u3, u6, u7⟩, u4⟩ := id hS
  obtain ⟨ho1, ho2, ho3, ho4, ho5⟩ := id ho
  have hn20 : (sRecs S).length ≤ 20 := u4.1.1
  have hk32 : sKeys S < 32 := u4.1.2.1
  have hp3 : sPol S < 3 := u4.1.2.2.1
  have ho10 : sOut S < 1024 := u4.1.2.2.2.1
  have hl2 : sLim S ≤ 200 := u4.1.2.2.2.2.1.2
  have hl1 : 1 ≤ sLim S := u4.1.2.2.2.2.1.1
  have hmk9 := hlt1 _ _ hmk
  obtain ⟨fho, hho⟩ := u7.obj
  refine j_aload_n hC dX9_setHome_9 rfl (jrf_ref _) ?_
  refine j_get (v := .ref (c + 3)) hC kf_X9_19 dX9_setHome_10 (a1) (rfl) ?_
  refine j_get (v := .ref (home)) hC kf_X9_258 dX9_setHome_13 (u1) (rfl) ?_
  refine c_V hC kv_X9_152 dX9_setHome_16 (m_X8_length hs9 (u7.mono hz)) (hz _ _ hho) rfl rfl rfl rfl (by decide) (Nat.le_of_ble_eq_true rfl) ?_
  refine j_istore_n2 hC dX9_setHome_19 (by decide) rfl ?_
  refine j_aload_n hC dX9_setHome_20 rfl (jrf_ref _) ?_
  refine j_get (v := .ref (c + 3)) hC kf_X9_19 dX9_setHome_21 (a1) (rfl) ?_
  refine j_aload_n hC dX9_setHome_24 rfl (jrf_ref _) ?_
  refine c_put (fs' := [.ref (c + 3 + 1), .int (nI (sRecs S).length), .ref lay, .ref (p), .int (nI (sKeys S)), .int (nI (sPol S)), .int (nI (sOut S)), .int (nI (sLim S))]) hC kp_X9_258 dX9_setHome_25 (u1) (by omega) (rfl) (rfl) rfl ?_
  refine j_iload_n hC dX9_setHome_28 rfl ?_
  have hS9 : suR (jput (M1) (c + 3) (.inr (9, [.ref (c + 3 + 1), .int (nI (sRecs S).length), .ref lay, .ref (p), .int (nI (sKeys S)), .int (nI (sPol S)), .int (nI (sOut S)), .int (nI (sLim S))]))).1 Z1 (c + 3) (withHome S b) := ⟨⟨lay, p, ff, xe, jput_at, (jput_ne (by omega)).trans u2, u5, u3, u6, htp⟩, setG_home u4 hbw.1 hbc0⟩
  have hk9 : kept M1 (jput (M1) (c + 3) (.inr (9, [.ref (c + 3 + 1), .int (nI (sRecs S).length), .ref lay, .ref (p), .int (nI (sKeys S)), .int (nI (sPol S)), .int (nI (sOut S)), .int (nI (sLim S))]))) (fun a => a = c + 3 ∨ a = c + 3 + 1) := fun a o ha hn => (jput_ne (fun e9 => hn (Or.inl e9))).trans ha
  have hz9 : sub Z1 (jput (M1) (c + 3) (.inr (9, [.ref (c + 3 + 1), .int (nI (sRecs S).length), .ref lay, .ref (p), .int (nI (sKeys S)), .int (nI (sPol S)), .int (nI (sOut S)), .int (nI (sLim S))]))).1 := kept.sub hk9 hz (fun a e9 => by rcases e9 with e9 | e9 <;> rw [e9] <;> assumption)
  have hJ9 := hJ1.set (Z' := Z1) (M' := jput (M1) (c + 3) (.inr (9, [.ref (c + 3 + 1), .int (nI (sRecs S).length), .ref lay, .ref (p), .int (nI (sKeys S)), .int (nI (sPol S)), .int (nI (sOut S)), .int (nI (sLim S))]))) (S' := withHome S b) hS9 zg_refl hz9 hk9
  have hkf : kept M (jput (M1) (c + 3) (.inr (9, [.ref (c + 3 + 1), .int (nI (sRecs S).length), .ref lay, .ref (p), .int (nI (sKeys S)), .int (nI (sPol S)), .int (nI (sOut S)), .int (nI (sLim S))]))) (fun a => a = v ∨ (c ≤ a ∧ a < c + 120)) := fun a o ha hn => hk9 _ _ (hk1 _ _ (hk0 _ _ ha (fun (e9 : a = c + 1) => hn (show _ ∨ _ from by omega))) (fun (e9 : a = c ∨ a = c + 13 ∨ (c + 80 ≤ a ∧ a < c + 119)) => hn (show _ ∨ _ from by omega))) (fun (e9 : a = c + 3 ∨ a = c + 3 + 1) => hn (show _ ∨ _ from by omega))
  exact j_iret hC9 rfl (rfl) dX9_setHome_29 (cr_of (T' := (withHome S b, (keepP P S), V, [], e, u)) (hom_0 (T := (S, P, V, b, e, u)) hno) (cQ_of hJ9 hkf hg0))
